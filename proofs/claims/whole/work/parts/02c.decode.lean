theorem dX7_round_15 : decode cX7_round 15 = .ok (.aload_n 0, 1) := by decide +kernel
theorem dX7_round_16 : decode cX7_round 16 = .ok (.getfield 33, 3) := by decide +kernel
theorem dX7_round_19 : decode cX7_round 19 = .ok (.aload_n 0, 1) := by decide +kernel
theorem dX7_round_20 : decode cX7_round 20 = .ok (.getfield 47, 3) := by decide +kernel
theorem dX7_round_23 : decode cX7_round 23 = .ok (.invokevirtual 161, 3) := by decide +kernel
theorem dX7_round_26 : decode cX7_round 26 = .ok (.istore_n 1, 1) := by decide +kernel
theorem dX7_round_27 : decode cX7_round 27 = .ok (.aload_n 0, 1) := by decide +kernel
theorem dX7_round_28 : decode cX7_round 28 = .ok (.dup, 1) := by decide +kernel
theorem dX7_round_29 : decode cX7_round 29 = .ok (.getfield 77, 3) := by decide +kernel
theorem dX7_round_32 : decode cX7_round 32 = .ok (.iconst 1, 1) := by decide +kernel
theorem dX7_round_33 : decode cX7_round 33 = .ok (.iadd, 1) := by decide +kernel
theorem dX7_round_34 : decode cX7_round 34 = .ok (.putfield 77, 3) := by decide +kernel
theorem dX7_round_37 : decode cX7_round 37 = .ok (.aload_n 0, 1) := by decide +kernel
theorem dX7_round_38 : decode cX7_round 38 = .ok (.invokevirtual 152, 3) := by decide +kernel
theorem dX7_round_41 : decode cX7_round 41 = .ok (.iload_n 1, 1) := by decide +kernel
theorem dX7_round_42 : decode cX7_round 42 = .ok (.ireturn, 1) := by decide +kernel
theorem dX7_rest_0 : decode cX7_rest 0 = .ok (.aload_n 0, 1) := by decide +kernel
theorem dX7_rest_1 : decode cX7_rest 1 = .ok (.invokevirtual 155, 3) := by decide +kernel
theorem dX7_rest_4 : decode cX7_rest 4 = .ok (.ifCond .ne 7, 3) := by decide +kernel
theorem dX7_rest_7 : decode cX7_rest 7 = .ok (.sipush (-1003), 3) := by decide +kernel
theorem dX7_rest_10 : decode cX7_rest 10 = .ok (.ireturn, 1) := by decide +kernel
theorem dX7_rest_11 : decode cX7_rest 11 = .ok (.iload_n 1, 1) := by decide +kernel
theorem dX7_rest_12 : decode cX7_rest 12 = .ok (.ifCond .lt 8, 3) := by decide +kernel
theorem dX7_rest_15 : decode cX7_rest 15 = .ok (.iload_n 1, 1) := by decide +kernel
theorem dX7_rest_16 : decode cX7_rest 16 = .ok (.iconst 2, 1) := by decide +kernel
theorem dX7_rest_17 : decode cX7_rest 17 = .ok (.if_icmp .le 7, 3) := by decide +kernel
theorem dX7_rest_20 : decode cX7_rest 20 = .ok (.sipush (-1002), 3) := by decide +kernel
theorem dX7_rest_23 : decode cX7_rest 23 = .ok (.ireturn, 1) := by decide +kernel
theorem dX7_rest_24 : decode cX7_rest 24 = .ok (.aload_n 0, 1) := by decide +kernel
theorem dX7_rest_25 : decode cX7_rest 25 = .ok (.invokevirtual 164, 3) := by decide +kernel
theorem dX7_rest_28 : decode cX7_rest 28 = .ok (.iload_n 1, 1) := by decide +kernel
theorem dX7_rest_29 : decode cX7_rest 29 = .ok (.ifCond .ne 8, 3) := by decide +kernel
theorem dX7_rest_32 : decode cX7_rest 32 = .ok (.aload_n 0, 1) := by decide +kernel
theorem dX7_rest_33 : decode cX7_rest 33 = .ok (.getfield 67, 3) := by decide +kernel
theorem dX7_rest_36 : decode cX7_rest 36 = .ok (.ireturn, 1) := by decide +kernel
theorem dX7_rest_37 : decode cX7_rest 37 = .ok (.iload_n 1, 1) := by decide +kernel
theorem dX7_rest_38 : decode cX7_rest 38 = .ok (.iconst 1, 1) := by decide +kernel
theorem dX7_rest_39 : decode cX7_rest 39 = .ok (.if_icmp .ne 10, 3) := by decide +kernel
theorem dX7_rest_42 : decode cX7_rest 42 = .ok (.aload_n 0, 1) := by decide +kernel
theorem dX7_rest_43 : decode cX7_rest 43 = .ok (.getfield 71, 3) := by decide +kernel
theorem dX7_rest_46 : decode cX7_rest 46 = .ok (.goto 7, 3) := by decide +kernel
theorem dX7_rest_49 : decode cX7_rest 49 = .ok (.aload_n 0, 1) := by decide +kernel
theorem dX7_rest_50 : decode cX7_rest 50 = .ok (.getfield 74, 3) := by decide +kernel
theorem dX7_rest_53 : decode cX7_rest 53 = .ok (.ireturn, 1) := by decide +kernel
theorem dX7_at_0 : decode cX7_at 0 = .ok (.aload_n 0, 1) := by decide +kernel
theorem dX7_at_1 : decode cX7_at 1 = .ok (.getfield 26, 3) := by decide +kernel
theorem dX7_at_4 : decode cX7_at 4 = .ok (.iload_n 1, 1) := by decide +kernel
theorem dX7_at_5 : decode cX7_at 5 = .ok (.invokevirtual 167, 3) := by decide +kernel
theorem dX7_at_8 : decode cX7_at 8 = .ok (.ifCond .eq 14, 3) := by decide +kernel
theorem dX7_at_11 : decode cX7_at 11 = .ok (.aload_n 0, 1) := by decide +kernel
theorem dX7_at_12 : decode cX7_at 12 = .ok (.getfield 26, 3) := by decide +kernel
theorem dX7_at_15 : decode cX7_at 15 = .ok (.iload_n 1, 1) := by decide +kernel
theorem dX7_at_16 : decode cX7_at 16 = .ok (.invokevirtual 170, 3) := by decide +kernel
theorem dX7_at_19 : decode cX7_at 19 = .ok (.goto 6, 3) := by decide +kernel
theorem dX7_at_22 : decode cX7_at 22 = .ok (.sipush (-1001), 3) := by decide +kernel
theorem dX7_at_25 : decode cX7_at 25 = .ok (.ireturn, 1) := by decide +kernel
theorem dX7_longest_0 : decode cX7_longest 0 = .ok (.aload_n 0, 1) := by decide +kernel
theorem dX7_longest_1 : decode cX7_longest 1 = .ok (.getfield 26, 3) := by decide +kernel
theorem dX7_longest_4 : decode cX7_longest 4 = .ok (.iload_n 1, 1) := by decide +kernel
theorem dX7_longest_5 : decode cX7_longest 5 = .ok (.invokevirtual 167, 3) := by decide +kernel
theorem dX7_longest_8 : decode cX7_longest 8 = .ok (.ifCond .ne 7, 3) := by decide +kernel
theorem dX7_longest_11 : decode cX7_longest 11 = .ok (.sipush (-1001), 3) := by decide +kernel
theorem dX7_longest_14 : decode cX7_longest 14 = .ok (.ireturn, 1) := by decide +kernel
theorem dX7_longest_15 : decode cX7_longest 15 = .ok (.iload_n 2, 1) := by decide +kernel
theorem dX7_longest_16 : decode cX7_longest 16 = .ok (.ifCond .lt 8, 3) := by decide +kernel
theorem dX7_longest_19 : decode cX7_longest 19 = .ok (.iload_n 2, 1) := by decide +kernel
theorem dX7_longest_20 : decode cX7_longest 20 = .ok (.iconst 1, 1) := by decide +kernel
theorem dX7_longest_21 : decode cX7_longest 21 = .ok (.if_icmp .le 7, 3) := by decide +kernel
theorem dX7_longest_24 : decode cX7_longest 24 = .ok (.sipush (-1002), 3) := by decide +kernel
theorem dX7_longest_27 : decode cX7_longest 27 = .ok (.ireturn, 1) := by decide +kernel
theorem dX7_longest_28 : decode cX7_longest 28 = .ok (.aload_n 0, 1) := by decide +kernel
theorem dX7_longest_29 : decode cX7_longest 29 = .ok (.getfield 26, 3) := by decide +kernel
theorem dX7_longest_32 : decode cX7_longest 32 = .ok (.iload_n 1, 1) := by decide +kernel
theorem dX7_longest_33 : decode cX7_longest 33 = .ok (.invokevirtual 173, 3) := by decide +kernel
theorem dX7_longest_36 : decode cX7_longest 36 = .ok (.istore_n 3, 1) := by decide +kernel
theorem dX7_longest_37 : decode cX7_longest 37 = .ok (.iload_n 2, 1) := by decide +kernel
theorem dX7_longest_38 : decode cX7_longest 38 = .ok (.ifCond .ne 15, 3) := by decide +kernel
theorem dX7_longest_41 : decode cX7_longest 41 = .ok (.aload_n 0, 1) := by decide +kernel
theorem dX7_longest_42 : decode cX7_longest 42 = .ok (.getfield 26, 3) := by decide +kernel
theorem dX7_longest_45 : decode cX7_longest 45 = .ok (.iload_n 1, 1) := by decide +kernel
theorem dX7_longest_46 : decode cX7_longest 46 = .ok (.iload_n 3, 1) := by decide +kernel
theorem dX7_longest_47 : decode cX7_longest 47 = .ok (.invokevirtual 176, 3) := by decide +kernel
theorem dX7_longest_50 : decode cX7_longest 50 = .ok (.goto 4, 3) := by decide +kernel
theorem dX7_longest_53 : decode cX7_longest 53 = .ok (.iload_n 3, 1) := by decide +kernel
theorem dX7_longest_54 : decode cX7_longest 54 = .ok (.ireturn, 1) := by decide +kernel
theorem dX7_chain_0 : decode cX7_chain 0 = .ok (.aload_n 0, 1) := by decide +kernel
theorem dX7_chain_1 : decode cX7_chain 1 = .ok (.getfield 26, 3) := by decide +kernel
theorem dX7_chain_4 : decode cX7_chain 4 = .ok (.iload_n 1, 1) := by decide +kernel
theorem dX7_chain_5 : decode cX7_chain 5 = .ok (.invokevirtual 167, 3) := by decide +kernel
theorem dX7_chain_8 : decode cX7_chain 8 = .ok (.ifCond .eq 15, 3) := by decide +kernel
theorem dX7_chain_11 : decode cX7_chain 11 = .ok (.aload_n 0, 1) := by decide +kernel
theorem dX7_chain_12 : decode cX7_chain 12 = .ok (.getfield 26, 3) := by decide +kernel
theorem dX7_chain_15 : decode cX7_chain 15 = .ok (.iload_n 1, 1) := by decide +kernel
theorem dX7_chain_16 : decode cX7_chain 16 = .ok (.iload_n 2, 1) := by decide +kernel
theorem dX7_chain_17 : decode cX7_chain 17 = .ok (.invokevirtual 180, 3) := by decide +kernel
theorem dX7_chain_20 : decode cX7_chain 20 = .ok (.goto 6, 3) := by decide +kernel
theorem dX7_chain_23 : decode cX7_chain 23 = .ok (.sipush (-1001), 3) := by decide +kernel
theorem dX7_chain_26 : decode cX7_chain 26 = .ok (.ireturn, 1) := by decide +kernel
theorem dX7_cheapest_0 : decode cX7_cheapest 0 = .ok (.aload_n 0, 1) := by decide +kernel
theorem dX7_cheapest_1 : decode cX7_cheapest 1 = .ok (.invokevirtual 155, 3) := by decide +kernel
theorem dX7_cheapest_4 : decode cX7_cheapest 4 = .ok (.ifCond .ne 7, 3) := by decide +kernel
theorem dX7_cheapest_7 : decode cX7_cheapest 7 = .ok (.sipush (-1003), 3) := by decide +kernel
theorem dX7_cheapest_10 : decode cX7_cheapest 10 = .ok (.ireturn, 1) := by decide +kernel
theorem dX7_cheapest_11 : decode cX7_cheapest 11 = .ok (.iload_n 1, 1) := by decide +kernel
theorem dX7_cheapest_12 : decode cX7_cheapest 12 = .ok (.bipush 10, 2) := by decide +kernel
theorem dX7_cheapest_14 : decode cX7_cheapest 14 = .ok (.if_icmp .lt 13, 3) := by decide +kernel
theorem dX7_cheapest_17 : decode cX7_cheapest 17 = .ok (.iload_n 1, 1) := by decide +kernel
theorem dX7_cheapest_18 : decode cX7_cheapest 18 = .ok (.bipush 33, 2) := by decide +kernel
theorem dX7_cheapest_20 : decode cX7_cheapest 20 = .ok (.if_icmp .gt 7, 3) := by decide +kernel
theorem dX7_cheapest_23 : decode cX7_cheapest 23 = .ok (.iconst 1, 1) := by decide +kernel
theorem dX7_cheapest_24 : decode cX7_cheapest 24 = .ok (.goto 4, 3) := by decide +kernel
theorem dX7_cheapest_27 : decode cX7_cheapest 27 = .ok (.iconst 0, 1) := by decide +kernel
theorem dX7_cheapest_28 : decode cX7_cheapest 28 = .ok (.istore_n 2, 1) := by decide +kernel
theorem dX7_cheapest_29 : decode cX7_cheapest 29 = .ok (.iload_n 2, 1) := by decide +kernel
theorem dX7_cheapest_30 : decode cX7_cheapest 30 = .ok (.ifCond .ne 16, 3) := by decide +kernel
theorem dX7_cheapest_33 : decode cX7_cheapest 33 = .ok (.iload_n 1, 1) := by decide +kernel
theorem dX7_cheapest_34 : decode cX7_cheapest 34 = .ok (.ifCond .lt 8, 3) := by decide +kernel
theorem dX7_cheapest_37 : decode cX7_cheapest 37 = .ok (.iload_n 1, 1) := by decide +kernel
theorem dX7_cheapest_38 : decode cX7_cheapest 38 = .ok (.iconst 2, 1) := by decide +kernel
theorem dX7_cheapest_39 : decode cX7_cheapest 39 = .ok (.if_icmp .le 7, 3) := by decide +kernel
theorem dX7_cheapest_42 : decode cX7_cheapest 42 = .ok (.sipush (-1002), 3) := by decide +kernel
theorem dX7_cheapest_45 : decode cX7_cheapest 45 = .ok (.ireturn, 1) := by decide +kernel
theorem dX7_cheapest_46 : decode cX7_cheapest 46 = .ok (.aload_n 0, 1) := by decide +kernel
theorem dX7_cheapest_47 : decode cX7_cheapest 47 = .ok (.invokevirtual 158, 3) := by decide +kernel
theorem dX7_cheapest_50 : decode cX7_cheapest 50 = .ok (.iload_n 2, 1) := by decide +kernel
theorem dX7_cheapest_51 : decode cX7_cheapest 51 = .ok (.ifCond .eq 15, 3) := by decide +kernel
theorem dX7_cheapest_54 : decode cX7_cheapest 54 = .ok (.aload_n 0, 1) := by decide +kernel
theorem dX7_cheapest_55 : decode cX7_cheapest 55 = .ok (.getfield 47, 3) := by decide +kernel
theorem dX7_cheapest_58 : decode cX7_cheapest 58 = .ok (.iload_n 1, 1) := by decide +kernel
theorem dX7_cheapest_59 : decode cX7_cheapest 59 = .ok (.bipush 10, 2) := by decide +kernel
theorem dX7_cheapest_61 : decode cX7_cheapest 61 = .ok (.isub, 1) := by decide +kernel
theorem dX7_cheapest_62 : decode cX7_cheapest 62 = .ok (.invokevirtual 183, 3) := by decide +kernel
theorem dX7_cheapest_65 : decode cX7_cheapest 65 = .ok (.ireturn, 1) := by decide +kernel
theorem dX7_cheapest_66 : decode cX7_cheapest 66 = .ok (.iload_n 1, 1) := by decide +kernel
theorem dX7_cheapest_67 : decode cX7_cheapest 67 = .ok (.ifCond .ne 15, 3) := by decide +kernel
theorem dX7_cheapest_70 : decode cX7_cheapest 70 = .ok (.aload_n 0, 1) := by decide +kernel
theorem dX7_cheapest_71 : decode cX7_cheapest 71 = .ok (.getfield 33, 3) := by decide +kernel
theorem dX7_cheapest_74 : decode cX7_cheapest 74 = .ok (.aload_n 0, 1) := by decide +kernel
theorem dX7_cheapest_75 : decode cX7_cheapest 75 = .ok (.getfield 47, 3) := by decide +kernel
theorem dX7_cheapest_78 : decode cX7_cheapest 78 = .ok (.invokevirtual 137, 3) := by decide +kernel
theorem dX7_cheapest_81 : decode cX7_cheapest 81 = .ok (.ireturn, 1) := by decide +kernel
theorem dX7_cheapest_82 : decode cX7_cheapest 82 = .ok (.iload_n 1, 1) := by decide +kernel
theorem dX7_cheapest_83 : decode cX7_cheapest 83 = .ok (.iconst 1, 1) := by decide +kernel
theorem dX7_cheapest_84 : decode cX7_cheapest 84 = .ok (.if_icmp .ne 13, 3) := by decide +kernel
theorem dX7_cheapest_87 : decode cX7_cheapest 87 = .ok (.aload_n 0, 1) := by decide +kernel
theorem dX7_cheapest_88 : decode cX7_cheapest 88 = .ok (.getfield 47, 3) := by decide +kernel
theorem dX7_cheapest_91 : decode cX7_cheapest 91 = .ok (.invokevirtual 184, 3) := by decide +kernel
theorem dX7_cheapest_94 : decode cX7_cheapest 94 = .ok (.goto 10, 3) := by decide +kernel
theorem dX7_cheapest_97 : decode cX7_cheapest 97 = .ok (.aload_n 0, 1) := by decide +kernel
theorem dX7_cheapest_98 : decode cX7_cheapest 98 = .ok (.getfield 47, 3) := by decide +kernel
theorem dX7_cheapest_101 : decode cX7_cheapest 101 = .ok (.invokevirtual 185, 3) := by decide +kernel
theorem dX7_cheapest_104 : decode cX7_cheapest 104 = .ok (.ireturn, 1) := by decide +kernel
theorem dX7_codeOf_0 : decode cX7_codeOf 0 = .ok (.aload_n 0, 1) := by decide +kernel
theorem dX7_codeOf_1 : decode cX7_codeOf 1 = .ok (.invokevirtual 155, 3) := by decide +kernel
theorem dX7_codeOf_4 : decode cX7_codeOf 4 = .ok (.ifCond .ne 7, 3) := by decide +kernel
theorem dX7_codeOf_7 : decode cX7_codeOf 7 = .ok (.sipush (-1003), 3) := by decide +kernel
theorem dX7_codeOf_10 : decode cX7_codeOf 10 = .ok (.ireturn, 1) := by decide +kernel
theorem dX7_codeOf_11 : decode cX7_codeOf 11 = .ok (.aload_n 0, 1) := by decide +kernel
theorem dX7_codeOf_12 : decode cX7_codeOf 12 = .ok (.invokevirtual 158, 3) := by decide +kernel
theorem dX7_codeOf_15 : decode cX7_codeOf 15 = .ok (.aload_n 0, 1) := by decide +kernel
theorem dX7_codeOf_16 : decode cX7_codeOf 16 = .ok (.getfield 47, 3) := by decide +kernel
theorem dX7_codeOf_19 : decode cX7_codeOf 19 = .ok (.iload_n 1, 1) := by decide +kernel
theorem dX7_codeOf_20 : decode cX7_codeOf 20 = .ok (.invokevirtual 188, 3) := by decide +kernel
theorem dX7_codeOf_23 : decode cX7_codeOf 23 = .ok (.ireturn, 1) := by decide +kernel
theorem dX7_greedy_0 : decode cX7_greedy 0 = .ok (.aload_n 0, 1) := by decide +kernel
theorem dX7_greedy_1 : decode cX7_greedy 1 = .ok (.invokevirtual 155, 3) := by decide +kernel
theorem dX7_greedy_4 : decode cX7_greedy 4 = .ok (.ifCond .ne 7, 3) := by decide +kernel
theorem dX7_greedy_7 : decode cX7_greedy 7 = .ok (.sipush (-1003), 3) := by decide +kernel
theorem dX7_greedy_10 : decode cX7_greedy 10 = .ok (.ireturn, 1) := by decide +kernel
theorem dX7_greedy_11 : decode cX7_greedy 11 = .ok (.iload_n 1, 1) := by decide +kernel
theorem dX7_greedy_12 : decode cX7_greedy 12 = .ok (.ifCond .lt 8, 3) := by decide +kernel
theorem dX7_greedy_15 : decode cX7_greedy 15 = .ok (.iload_n 1, 1) := by decide +kernel
theorem dX7_greedy_16 : decode cX7_greedy 16 = .ok (.iconst 1, 1) := by decide +kernel
theorem dX7_greedy_17 : decode cX7_greedy 17 = .ok (.if_icmp .le 7, 3) := by decide +kernel
theorem dX7_greedy_20 : decode cX7_greedy 20 = .ok (.sipush (-1002), 3) := by decide +kernel
theorem dX7_greedy_23 : decode cX7_greedy 23 = .ok (.ireturn, 1) := by decide +kernel
theorem dX7_greedy_24 : decode cX7_greedy 24 = .ok (.aload_n 0, 1) := by decide +kernel
theorem dX7_greedy_25 : decode cX7_greedy 25 = .ok (.invokevirtual 189, 3) := by decide +kernel
theorem dX7_greedy_28 : decode cX7_greedy 28 = .ok (.iload_n 1, 1) := by decide +kernel
theorem dX7_greedy_29 : decode cX7_greedy 29 = .ok (.ifCond .ne 17, 3) := by decide +kernel
theorem dX7_greedy_32 : decode cX7_greedy 32 = .ok (.aload_n 0, 1) := by decide +kernel
theorem dX7_greedy_33 : decode cX7_greedy 33 = .ok (.getfield 33, 3) := by decide +kernel
theorem dX7_greedy_36 : decode cX7_greedy 36 = .ok (.aload_n 0, 1) := by decide +kernel
theorem dX7_greedy_37 : decode cX7_greedy 37 = .ok (.getfield 51, 3) := by decide +kernel
theorem dX7_greedy_40 : decode cX7_greedy 40 = .ok (.invokevirtual 137, 3) := by decide +kernel
theorem dX7_greedy_43 : decode cX7_greedy 43 = .ok (.goto 10, 3) := by decide +kernel
theorem dX7_greedy_46 : decode cX7_greedy 46 = .ok (.aload_n 0, 1) := by decide +kernel
theorem dX7_greedy_47 : decode cX7_greedy 47 = .ok (.getfield 51, 3) := by decide +kernel
theorem dX7_greedy_50 : decode cX7_greedy 50 = .ok (.invokevirtual 184, 3) := by decide +kernel
theorem dX7_greedy_53 : decode cX7_greedy 53 = .ok (.ireturn, 1) := by decide +kernel
theorem dX7_parts_0 : decode cX7_parts 0 = .ok (.aload_n 0, 1) := by decide +kernel
theorem dX7_parts_1 : decode cX7_parts 1 = .ok (.invokevirtual 155, 3) := by decide +kernel
theorem dX7_parts_4 : decode cX7_parts 4 = .ok (.ifCond .ne 7, 3) := by decide +kernel
theorem dX7_parts_7 : decode cX7_parts 7 = .ok (.sipush (-1003), 3) := by decide +kernel
theorem dX7_parts_10 : decode cX7_parts 10 = .ok (.ireturn, 1) := by decide +kernel
theorem dX7_parts_11 : decode cX7_parts 11 = .ok (.iload_n 1, 1) := by decide +kernel
theorem dX7_parts_12 : decode cX7_parts 12 = .ok (.iconst 1, 1) := by decide +kernel
theorem dX7_parts_13 : decode cX7_parts 13 = .ok (.if_icmp .lt 18, 3) := by decide +kernel
theorem dX7_parts_16 : decode cX7_parts 16 = .ok (.iload_n 1, 1) := by decide +kernel
theorem dX7_parts_17 : decode cX7_parts 17 = .ok (.bipush 24, 2) := by decide +kernel
theorem dX7_parts_19 : decode cX7_parts 19 = .ok (.if_icmp .gt 12, 3) := by decide +kernel
theorem dX7_parts_22 : decode cX7_parts 22 = .ok (.iload_n 2, 1) := by decide +kernel
theorem dX7_parts_23 : decode cX7_parts 23 = .ok (.ifCond .lt 8, 3) := by decide +kernel
theorem dX7_parts_26 : decode cX7_parts 26 = .ok (.iload_n 2, 1) := by decide +kernel
theorem dX7_parts_27 : decode cX7_parts 27 = .ok (.iconst 2, 1) := by decide +kernel
theorem dX7_parts_28 : decode cX7_parts 28 = .ok (.if_icmp .le 7, 3) := by decide +kernel
theorem dX7_parts_31 : decode cX7_parts 31 = .ok (.sipush (-1002), 3) := by decide +kernel
theorem dX7_parts_34 : decode cX7_parts 34 = .ok (.ireturn, 1) := by decide +kernel
theorem dX7_parts_35 : decode cX7_parts 35 = .ok (.iload_n 2, 1) := by decide +kernel
theorem dX7_parts_36 : decode cX7_parts 36 = .ok (.iconst 1, 1) := by decide +kernel
theorem dX7_parts_37 : decode cX7_parts 37 = .ok (.if_icmp .ne 17, 3) := by decide +kernel
theorem dX7_parts_40 : decode cX7_parts 40 = .ok (.aload_n 0, 1) := by decide +kernel
theorem dX7_parts_41 : decode cX7_parts 41 = .ok (.getfield 26, 3) := by decide +kernel
theorem dX7_parts_44 : decode cX7_parts 44 = .ok (.invokevirtual 123, 3) := by decide +kernel
theorem dX7_parts_47 : decode cX7_parts 47 = .ok (.iload_n 1, 1) := by decide +kernel
theorem dX7_parts_48 : decode cX7_parts 48 = .ok (.iadd, 1) := by decide +kernel
theorem dX7_parts_49 : decode cX7_parts 49 = .ok (.iconst 1, 1) := by decide +kernel
theorem dX7_parts_50 : decode cX7_parts 50 = .ok (.isub, 1) := by decide +kernel
theorem dX7_parts_51 : decode cX7_parts 51 = .ok (.iload_n 1, 1) := by decide +kernel
theorem dX7_parts_52 : decode cX7_parts 52 = .ok (.idiv, 1) := by decide +kernel
theorem dX7_parts_53 : decode cX7_parts 53 = .ok (.ireturn, 1) := by decide +kernel
theorem dX7_parts_54 : decode cX7_parts 54 = .ok (.aload_n 0, 1) := by decide +kernel
theorem dX7_parts_55 : decode cX7_parts 55 = .ok (.iload_n 1, 1) := by decide +kernel
theorem dX7_parts_56 : decode cX7_parts 56 = .ok (.invokevirtual 192, 3) := by decide +kernel
theorem dX7_parts_59 : decode cX7_parts 59 = .ok (.istore_n 3, 1) := by decide +kernel
theorem dX7_parts_60 : decode cX7_parts 60 = .ok (.iload_n 2, 1) := by decide +kernel
theorem dX7_parts_61 : decode cX7_parts 61 = .ok (.ifCond .ne 5, 3) := by decide +kernel
theorem dX7_parts_64 : decode cX7_parts 64 = .ok (.iload_n 3, 1) := by decide +kernel
theorem dX7_parts_65 : decode cX7_parts 65 = .ok (.ireturn, 1) := by decide +kernel
theorem dX7_parts_66 : decode cX7_parts 66 = .ok (.aload_n 0, 1) := by decide +kernel
theorem dX7_parts_67 : decode cX7_parts 67 = .ok (.invokevirtual 158, 3) := by decide +kernel
theorem dX7_parts_70 : decode cX7_parts 70 = .ok (.iload_n 3, 1) := by decide +kernel
theorem dX7_parts_71 : decode cX7_parts 71 = .ok (.aload_n 0, 1) := by decide +kernel
theorem dX7_parts_72 : decode cX7_parts 72 = .ok (.getfield 33, 3) := by decide +kernel
theorem dX7_parts_75 : decode cX7_parts 75 = .ok (.aload_n 0, 1) := by decide +kernel
theorem dX7_parts_76 : decode cX7_parts 76 = .ok (.getfield 47, 3) := by decide +kernel
theorem dX7_parts_79 : decode cX7_parts 79 = .ok (.invokevirtual 137, 3) := by decide +kernel
theorem dX7_parts_82 : decode cX7_parts 82 = .ok (.isub, 1) := by decide +kernel
theorem dX7_parts_83 : decode cX7_parts 83 = .ok (.ireturn, 1) := by decide +kernel
theorem dX7_count_0 : decode cX7_count 0 = .ok (.iload_n 1, 1) := by decide +kernel
theorem dX7_count_1 : decode cX7_count 1 = .ok (.ifCond .lt 9, 3) := by decide +kernel
theorem dX7_count_4 : decode cX7_count 4 = .ok (.iload_n 1, 1) := by decide +kernel
theorem dX7_count_5 : decode cX7_count 5 = .ok (.bipush 8, 2) := by decide +kernel
theorem dX7_count_7 : decode cX7_count 7 = .ok (.if_icmp .lt 7, 3) := by decide +kernel
theorem dX7_count_10 : decode cX7_count 10 = .ok (.sipush (-1002), 3) := by decide +kernel
theorem dX7_count_13 : decode cX7_count 13 = .ok (.ireturn, 1) := by decide +kernel
theorem dX7_count_14 : decode cX7_count 14 = .ok (.iload_n 1, 1) := by decide +kernel
theorem dX7_count_15 : decode cX7_count 15 = .ok (.iconst 2, 1) := by decide +kernel
theorem dX7_count_16 : decode cX7_count 16 = .ok (.if_icmp .lt 12, 3) := by decide +kernel
theorem dX7_count_19 : decode cX7_count 19 = .ok (.iload_n 1, 1) := by decide +kernel
theorem dX7_count_20 : decode cX7_count 20 = .ok (.iconst 4, 1) := by decide +kernel
theorem dX7_count_21 : decode cX7_count 21 = .ok (.if_icmp .gt 7, 3) := by decide +kernel
theorem dX7_count_24 : decode cX7_count 24 = .ok (.aload_n 0, 1) := by decide +kernel
theorem dX7_count_25 : decode cX7_count 25 = .ok (.invokevirtual 158, 3) := by decide +kernel
theorem dX7_count_28 : decode cX7_count 28 = .ok (.iload_n 1, 1) := by decide +kernel
theorem dX7_count_29 : decode cX7_count 29 = .ok (.tableswitch 93 0 6 #[43, 51, 59, 67, 75, 83, 88], 43) := by decide +kernel
theorem dX7_count_72 : decode cX7_count 72 = .ok (.aload_n 0, 1) := by decide +kernel
theorem dX7_count_73 : decode cX7_count 73 = .ok (.getfield 10, 3) := by decide +kernel
theorem dX7_count_76 : decode cX7_count 76 = .ok (.invokevirtual 94, 3) := by decide +kernel
theorem dX7_count_79 : decode cX7_count 79 = .ok (.ireturn, 1) := by decide +kernel
theorem dX7_count_80 : decode cX7_count 80 = .ok (.aload_n 0, 1) := by decide +kernel
theorem dX7_count_81 : decode cX7_count 81 = .ok (.getfield 26, 3) := by decide +kernel
theorem dX7_count_84 : decode cX7_count 84 = .ok (.invokevirtual 123, 3) := by decide +kernel
theorem dX7_count_87 : decode cX7_count 87 = .ok (.ireturn, 1) := by decide +kernel
theorem dX7_count_88 : decode cX7_count 88 = .ok (.aload_n 0, 1) := by decide +kernel
theorem dX7_count_89 : decode cX7_count 89 = .ok (.getfield 47, 3) := by decide +kernel
theorem dX7_count_92 : decode cX7_count 92 = .ok (.invokevirtual 195, 3) := by decide +kernel
theorem dX7_count_95 : decode cX7_count 95 = .ok (.ireturn, 1) := by decide +kernel
theorem dX7_count_96 : decode cX7_count 96 = .ok (.aload_n 0, 1) := by decide +kernel
theorem dX7_count_97 : decode cX7_count 97 = .ok (.getfield 47, 3) := by decide +kernel
theorem dX7_count_100 : decode cX7_count 100 = .ok (.invokevirtual 198, 3) := by decide +kernel
theorem dX7_count_103 : decode cX7_count 103 = .ok (.ireturn, 1) := by decide +kernel
theorem dX7_count_104 : decode cX7_count 104 = .ok (.aload_n 0, 1) := by decide +kernel
theorem dX7_count_105 : decode cX7_count 105 = .ok (.getfield 47, 3) := by decide +kernel
theorem dX7_count_108 : decode cX7_count 108 = .ok (.invokevirtual 201, 3) := by decide +kernel
theorem dX7_count_111 : decode cX7_count 111 = .ok (.ireturn, 1) := by decide +kernel
theorem dX7_count_112 : decode cX7_count 112 = .ok (.aload_n 0, 1) := by decide +kernel
theorem dX7_count_113 : decode cX7_count 113 = .ok (.getfield 77, 3) := by decide +kernel
theorem dX7_count_116 : decode cX7_count 116 = .ok (.ireturn, 1) := by decide +kernel
theorem dX7_count_117 : decode cX7_count 117 = .ok (.aload_n 0, 1) := by decide +kernel
theorem dX7_count_118 : decode cX7_count 118 = .ok (.getfield 80, 3) := by decide +kernel
theorem dX7_count_121 : decode cX7_count 121 = .ok (.ireturn, 1) := by decide +kernel
theorem dX7_count_122 : decode cX7_count 122 = .ok (.aload_n 0, 1) := by decide +kernel
theorem dX7_count_123 : decode cX7_count 123 = .ok (.getfield 83, 3) := by decide +kernel
theorem dX7_count_126 : decode cX7_count 126 = .ok (.ireturn, 1) := by decide +kernel
theorem dX7_digest_0 : decode cX7_digest 0 = .ok (.ldc2_w 204, 3) := by decide +kernel
theorem dX7_digest_3 : decode cX7_digest 3 = .ok (.lstore_n 1, 1) := by decide +kernel
theorem dX7_digest_4 : decode cX7_digest 4 = .ok (.iconst 0, 1) := by decide +kernel
theorem dX7_digest_5 : decode cX7_digest 5 = .ok (.istore_n 3, 1) := by decide +kernel
theorem dX7_digest_6 : decode cX7_digest 6 = .ok (.iload_n 3, 1) := by decide +kernel
theorem dX7_digest_7 : decode cX7_digest 7 = .ok (.bipush 18, 2) := by decide +kernel
theorem dX7_digest_9 : decode cX7_digest 9 = .ok (.if_icmp .ge 23, 3) := by decide +kernel
theorem dX7_digest_12 : decode cX7_digest 12 = .ok (.lload_n 1, 1) := by decide +kernel
theorem dX7_digest_13 : decode cX7_digest 13 = .ok (.aload_n 0, 1) := by decide +kernel
theorem dX7_digest_14 : decode cX7_digest 14 = .ok (.getfield 33, 3) := by decide +kernel
theorem dX7_digest_17 : decode cX7_digest 17 = .ok (.iload_n 3, 1) := by decide +kernel
theorem dX7_digest_18 : decode cX7_digest 18 = .ok (.invokevirtual 145, 3) := by decide +kernel
theorem dX7_digest_21 : decode cX7_digest 21 = .ok (.i2l, 1) := by decide +kernel
theorem dX7_digest_22 : decode cX7_digest 22 = .ok (.invokestatic 206, 3) := by decide +kernel
theorem dX7_digest_25 : decode cX7_digest 25 = .ok (.lstore_n 1, 1) := by decide +kernel
theorem dX7_digest_26 : decode cX7_digest 26 = .ok (.iinc 3 1, 3) := by decide +kernel
theorem dX7_digest_29 : decode cX7_digest 29 = .ok (.goto (-23), 3) := by decide +kernel
theorem dX7_digest_32 : decode cX7_digest 32 = .ok (.iconst 0, 1) := by decide +kernel
theorem dX7_digest_33 : decode cX7_digest 33 = .ok (.istore_n 3, 1) := by decide +kernel
theorem dX7_digest_34 : decode cX7_digest 34 = .ok (.iload_n 3, 1) := by decide +kernel
theorem dX7_digest_35 : decode cX7_digest 35 = .ok (.aload_n 0, 1) := by decide +kernel
theorem dX7_digest_36 : decode cX7_digest 36 = .ok (.getfield 26, 3) := by decide +kernel
theorem dX7_digest_39 : decode cX7_digest 39 = .ok (.invokevirtual 123, 3) := by decide +kernel
theorem dX7_digest_42 : decode cX7_digest 42 = .ok (.if_icmp .ge 76, 3) := by decide +kernel
theorem dX7_digest_45 : decode cX7_digest 45 = .ok (.lload_n 1, 1) := by decide +kernel
theorem dX7_digest_46 : decode cX7_digest 46 = .ok (.aload_n 0, 1) := by decide +kernel
theorem dX7_digest_47 : decode cX7_digest 47 = .ok (.iload_n 3, 1) := by decide +kernel
theorem dX7_digest_48 : decode cX7_digest 48 = .ok (.invokevirtual 210, 3) := by decide +kernel
theorem dX7_digest_51 : decode cX7_digest 51 = .ok (.i2l, 1) := by decide +kernel
theorem dX7_digest_52 : decode cX7_digest 52 = .ok (.invokestatic 206, 3) := by decide +kernel
theorem dX7_digest_55 : decode cX7_digest 55 = .ok (.lstore_n 1, 1) := by decide +kernel
theorem dX7_digest_56 : decode cX7_digest 56 = .ok (.iconst 0, 1) := by decide +kernel
theorem dX7_digest_57 : decode cX7_digest 57 = .ok (.istore 4, 2) := by decide +kernel
theorem dX7_digest_59 : decode cX7_digest 59 = .ok (.iload 4, 2) := by decide +kernel
theorem dX7_digest_61 : decode cX7_digest 61 = .ok (.iconst 1, 1) := by decide +kernel
theorem dX7_digest_62 : decode cX7_digest 62 = .ok (.if_icmp .gt 22, 3) := by decide +kernel
theorem dX7_digest_65 : decode cX7_digest 65 = .ok (.lload_n 1, 1) := by decide +kernel
theorem dX7_digest_66 : decode cX7_digest 66 = .ok (.aload_n 0, 1) := by decide +kernel
theorem dX7_digest_67 : decode cX7_digest 67 = .ok (.iload_n 3, 1) := by decide +kernel
theorem dX7_digest_68 : decode cX7_digest 68 = .ok (.iload 4, 2) := by decide +kernel
theorem dX7_digest_70 : decode cX7_digest 70 = .ok (.invokevirtual 213, 3) := by decide +kernel
theorem dX7_digest_73 : decode cX7_digest 73 = .ok (.i2l, 1) := by decide +kernel
theorem dX7_digest_74 : decode cX7_digest 74 = .ok (.invokestatic 206, 3) := by decide +kernel
theorem dX7_digest_77 : decode cX7_digest 77 = .ok (.lstore_n 1, 1) := by decide +kernel
theorem dX7_digest_78 : decode cX7_digest 78 = .ok (.iinc 4 1, 3) := by decide +kernel
theorem dX7_digest_81 : decode cX7_digest 81 = .ok (.goto (-22), 3) := by decide +kernel
theorem dX7_digest_84 : decode cX7_digest 84 = .ok (.iconst 0, 1) := by decide +kernel
theorem dX7_digest_85 : decode cX7_digest 85 = .ok (.istore 4, 2) := by decide +kernel
theorem dX7_digest_87 : decode cX7_digest 87 = .ok (.iload 4, 2) := by decide +kernel
theorem dX7_digest_89 : decode cX7_digest 89 = .ok (.iconst 1, 1) := by decide +kernel
theorem dX7_digest_90 : decode cX7_digest 90 = .ok (.if_icmp .gt 22, 3) := by decide +kernel
theorem dX7_digest_93 : decode cX7_digest 93 = .ok (.lload_n 1, 1) := by decide +kernel
theorem dX7_digest_94 : decode cX7_digest 94 = .ok (.aload_n 0, 1) := by decide +kernel
theorem dX7_digest_95 : decode cX7_digest 95 = .ok (.iload_n 3, 1) := by decide +kernel
theorem dX7_digest_96 : decode cX7_digest 96 = .ok (.iload 4, 2) := by decide +kernel
theorem dX7_digest_98 : decode cX7_digest 98 = .ok (.invokevirtual 216, 3) := by decide +kernel
theorem dX7_digest_101 : decode cX7_digest 101 = .ok (.i2l, 1) := by decide +kernel
theorem dX7_digest_102 : decode cX7_digest 102 = .ok (.invokestatic 206, 3) := by decide +kernel
theorem dX7_digest_105 : decode cX7_digest 105 = .ok (.lstore_n 1, 1) := by decide +kernel
theorem dX7_digest_106 : decode cX7_digest 106 = .ok (.iinc 4 1, 3) := by decide +kernel
theorem dX7_digest_109 : decode cX7_digest 109 = .ok (.goto (-22), 3) := by decide +kernel
theorem dX7_digest_112 : decode cX7_digest 112 = .ok (.iinc 3 1, 3) := by decide +kernel
theorem dX7_digest_115 : decode cX7_digest 115 = .ok (.goto (-81), 3) := by decide +kernel
theorem dX7_digest_118 : decode cX7_digest 118 = .ok (.aload_n 0, 1) := by decide +kernel
theorem dX7_digest_119 : decode cX7_digest 119 = .ok (.invokevirtual 155, 3) := by decide +kernel
theorem dX7_digest_122 : decode cX7_digest 122 = .ok (.ifCond .eq 133, 3) := by decide +kernel
theorem dX7_digest_125 : decode cX7_digest 125 = .ok (.iconst 0, 1) := by decide +kernel
theorem dX7_digest_126 : decode cX7_digest 126 = .ok (.istore_n 3, 1) := by decide +kernel
theorem dX7_digest_127 : decode cX7_digest 127 = .ok (.iload_n 3, 1) := by decide +kernel
theorem dX7_digest_128 : decode cX7_digest 128 = .ok (.iconst 2, 1) := by decide +kernel
theorem dX7_digest_129 : decode cX7_digest 129 = .ok (.if_icmp .gt 20, 3) := by decide +kernel
theorem dX7_digest_132 : decode cX7_digest 132 = .ok (.lload_n 1, 1) := by decide +kernel
theorem dX7_digest_133 : decode cX7_digest 133 = .ok (.aload_n 0, 1) := by decide +kernel
theorem dX7_digest_134 : decode cX7_digest 134 = .ok (.iload_n 3, 1) := by decide +kernel
theorem dX7_digest_135 : decode cX7_digest 135 = .ok (.invokevirtual 219, 3) := by decide +kernel
theorem dX7_digest_138 : decode cX7_digest 138 = .ok (.i2l, 1) := by decide +kernel
theorem dX7_digest_139 : decode cX7_digest 139 = .ok (.invokestatic 206, 3) := by decide +kernel
theorem dX7_digest_142 : decode cX7_digest 142 = .ok (.lstore_n 1, 1) := by decide +kernel
theorem dX7_digest_143 : decode cX7_digest 143 = .ok (.iinc 3 1, 3) := by decide +kernel
theorem dX7_digest_146 : decode cX7_digest 146 = .ok (.goto (-19), 3) := by decide +kernel
theorem dX7_digest_149 : decode cX7_digest 149 = .ok (.iconst 0, 1) := by decide +kernel
theorem dX7_digest_150 : decode cX7_digest 150 = .ok (.istore_n 3, 1) := by decide +kernel
theorem dX7_digest_151 : decode cX7_digest 151 = .ok (.iload_n 3, 1) := by decide +kernel
theorem dX7_digest_152 : decode cX7_digest 152 = .ok (.aload_n 0, 1) := by decide +kernel
theorem dX7_digest_153 : decode cX7_digest 153 = .ok (.getfield 47, 3) := by decide +kernel
theorem dX7_digest_156 : decode cX7_digest 156 = .ok (.invokevirtual 184, 3) := by decide +kernel
theorem dX7_digest_159 : decode cX7_digest 159 = .ok (.if_icmp .ge 23, 3) := by decide +kernel
theorem dX7_digest_162 : decode cX7_digest 162 = .ok (.lload_n 1, 1) := by decide +kernel
theorem dX7_digest_163 : decode cX7_digest 163 = .ok (.aload_n 0, 1) := by decide +kernel
theorem dX7_digest_164 : decode cX7_digest 164 = .ok (.getfield 47, 3) := by decide +kernel
theorem dX7_digest_167 : decode cX7_digest 167 = .ok (.iload_n 3, 1) := by decide +kernel
theorem dX7_digest_168 : decode cX7_digest 168 = .ok (.invokevirtual 183, 3) := by decide +kernel
theorem dX7_digest_171 : decode cX7_digest 171 = .ok (.i2l, 1) := by decide +kernel
theorem dX7_digest_172 : decode cX7_digest 172 = .ok (.invokestatic 206, 3) := by decide +kernel
theorem dX7_digest_175 : decode cX7_digest 175 = .ok (.lstore_n 1, 1) := by decide +kernel
theorem dX7_digest_176 : decode cX7_digest 176 = .ok (.iinc 3 1, 3) := by decide +kernel
theorem dX7_digest_179 : decode cX7_digest 179 = .ok (.goto (-28), 3) := by decide +kernel
theorem dX7_digest_182 : decode cX7_digest 182 = .ok (.iconst 0, 1) := by decide +kernel
theorem dX7_digest_183 : decode cX7_digest 183 = .ok (.istore_n 3, 1) := by decide +kernel
theorem dX7_digest_184 : decode cX7_digest 184 = .ok (.iload_n 3, 1) := by decide +kernel
theorem dX7_digest_185 : decode cX7_digest 185 = .ok (.iconst 1, 1) := by decide +kernel
theorem dX7_digest_186 : decode cX7_digest 186 = .ok (.if_icmp .gt 20, 3) := by decide +kernel
theorem dX7_digest_189 : decode cX7_digest 189 = .ok (.lload_n 1, 1) := by decide +kernel
theorem dX7_digest_190 : decode cX7_digest 190 = .ok (.aload_n 0, 1) := by decide +kernel
theorem dX7_digest_191 : decode cX7_digest 191 = .ok (.iload_n 3, 1) := by decide +kernel
theorem dX7_digest_192 : decode cX7_digest 192 = .ok (.invokevirtual 222, 3) := by decide +kernel
theorem dX7_digest_195 : decode cX7_digest 195 = .ok (.i2l, 1) := by decide +kernel
theorem dX7_digest_196 : decode cX7_digest 196 = .ok (.invokestatic 206, 3) := by decide +kernel
theorem dX7_digest_199 : decode cX7_digest 199 = .ok (.lstore_n 1, 1) := by decide +kernel
theorem dX7_digest_200 : decode cX7_digest 200 = .ok (.iinc 3 1, 3) := by decide +kernel
theorem dX7_digest_203 : decode cX7_digest 203 = .ok (.goto (-19), 3) := by decide +kernel
theorem dX7_digest_206 : decode cX7_digest 206 = .ok (.iconst 0, 1) := by decide +kernel
theorem dX7_digest_207 : decode cX7_digest 207 = .ok (.istore_n 3, 1) := by decide +kernel
theorem dX7_digest_208 : decode cX7_digest 208 = .ok (.iload_n 3, 1) := by decide +kernel
theorem dX7_digest_209 : decode cX7_digest 209 = .ok (.iconst 2, 1) := by decide +kernel
theorem dX7_digest_210 : decode cX7_digest 210 = .ok (.if_icmp .gt 20, 3) := by decide +kernel
theorem dX7_digest_213 : decode cX7_digest 213 = .ok (.lload_n 1, 1) := by decide +kernel
theorem dX7_digest_214 : decode cX7_digest 214 = .ok (.aload_n 0, 1) := by decide +kernel
theorem dX7_digest_215 : decode cX7_digest 215 = .ok (.iload_n 3, 1) := by decide +kernel
theorem dX7_digest_216 : decode cX7_digest 216 = .ok (.invokevirtual 225, 3) := by decide +kernel
theorem dX7_digest_219 : decode cX7_digest 219 = .ok (.i2l, 1) := by decide +kernel
theorem dX7_digest_220 : decode cX7_digest 220 = .ok (.invokestatic 206, 3) := by decide +kernel
theorem dX7_digest_223 : decode cX7_digest 223 = .ok (.lstore_n 1, 1) := by decide +kernel
theorem dX7_digest_224 : decode cX7_digest 224 = .ok (.iinc 3 1, 3) := by decide +kernel
theorem dX7_digest_227 : decode cX7_digest 227 = .ok (.goto (-19), 3) := by decide +kernel
theorem dX7_digest_230 : decode cX7_digest 230 = .ok (.lload_n 1, 1) := by decide +kernel
theorem dX7_digest_231 : decode cX7_digest 231 = .ok (.aload_n 0, 1) := by decide +kernel
theorem dX7_digest_232 : decode cX7_digest 232 = .ok (.iconst 4, 1) := by decide +kernel
theorem dX7_digest_233 : decode cX7_digest 233 = .ok (.iconst 0, 1) := by decide +kernel
theorem dX7_digest_234 : decode cX7_digest 234 = .ok (.invokevirtual 228, 3) := by decide +kernel
theorem dX7_digest_237 : decode cX7_digest 237 = .ok (.i2l, 1) := by decide +kernel
theorem dX7_digest_238 : decode cX7_digest 238 = .ok (.invokestatic 206, 3) := by decide +kernel
theorem dX7_digest_241 : decode cX7_digest 241 = .ok (.lstore_n 1, 1) := by decide +kernel
theorem dX7_digest_242 : decode cX7_digest 242 = .ok (.lload_n 1, 1) := by decide +kernel
theorem dX7_digest_243 : decode cX7_digest 243 = .ok (.aload_n 0, 1) := by decide +kernel
theorem dX7_digest_244 : decode cX7_digest 244 = .ok (.bipush 10, 2) := by decide +kernel
theorem dX7_digest_246 : decode cX7_digest 246 = .ok (.iconst 0, 1) := by decide +kernel
theorem dX7_digest_247 : decode cX7_digest 247 = .ok (.invokevirtual 228, 3) := by decide +kernel
theorem dX7_digest_250 : decode cX7_digest 250 = .ok (.i2l, 1) := by decide +kernel
theorem dX7_digest_251 : decode cX7_digest 251 = .ok (.invokestatic 206, 3) := by decide +kernel
theorem dX7_digest_254 : decode cX7_digest 254 = .ok (.lstore_n 1, 1) := by decide +kernel
theorem dX7_digest_255 : decode cX7_digest 255 = .ok (.iconst 0, 1) := by decide +kernel
theorem dX7_digest_256 : decode cX7_digest 256 = .ok (.istore_n 3, 1) := by decide +kernel
theorem dX7_digest_257 : decode cX7_digest 257 = .ok (.iload_n 3, 1) := by decide +kernel
theorem dX7_digest_258 : decode cX7_digest 258 = .ok (.aload_n 0, 1) := by decide +kernel
theorem dX7_digest_259 : decode cX7_digest 259 = .ok (.getfield 10, 3) := by decide +kernel
theorem dX7_digest_262 : decode cX7_digest 262 = .ok (.invokevirtual 94, 3) := by decide +kernel
theorem dX7_digest_265 : decode cX7_digest 265 = .ok (.if_icmp .ge 23, 3) := by decide +kernel
theorem dX7_digest_268 : decode cX7_digest 268 = .ok (.lload_n 1, 1) := by decide +kernel
theorem dX7_digest_269 : decode cX7_digest 269 = .ok (.aload_n 0, 1) := by decide +kernel
theorem dX7_digest_270 : decode cX7_digest 270 = .ok (.getfield 10, 3) := by decide +kernel
theorem dX7_digest_273 : decode cX7_digest 273 = .ok (.iload_n 3, 1) := by decide +kernel
theorem dX7_digest_274 : decode cX7_digest 274 = .ok (.invokevirtual 115, 3) := by decide +kernel
theorem dX7_digest_277 : decode cX7_digest 277 = .ok (.i2l, 1) := by decide +kernel
theorem dX7_digest_278 : decode cX7_digest 278 = .ok (.invokestatic 206, 3) := by decide +kernel
theorem dX7_digest_281 : decode cX7_digest 281 = .ok (.lstore_n 1, 1) := by decide +kernel
theorem dX7_digest_282 : decode cX7_digest 282 = .ok (.iinc 3 1, 3) := by decide +kernel
theorem dX7_digest_285 : decode cX7_digest 285 = .ok (.goto (-28), 3) := by decide +kernel
theorem dX7_digest_288 : decode cX7_digest 288 = .ok (.iconst 0, 1) := by decide +kernel
theorem dX7_digest_289 : decode cX7_digest 289 = .ok (.istore_n 3, 1) := by decide +kernel
theorem dX7_digest_290 : decode cX7_digest 290 = .ok (.iload_n 3, 1) := by decide +kernel
theorem dX7_digest_291 : decode cX7_digest 291 = .ok (.bipush 8, 2) := by decide +kernel
theorem dX7_digest_293 : decode cX7_digest 293 = .ok (.if_icmp .ge 20, 3) := by decide +kernel
theorem dX7_digest_296 : decode cX7_digest 296 = .ok (.lload_n 1, 1) := by decide +kernel
theorem dX7_digest_297 : decode cX7_digest 297 = .ok (.aload_n 0, 1) := by decide +kernel
theorem dX7_digest_298 : decode cX7_digest 298 = .ok (.iload_n 3, 1) := by decide +kernel
theorem dX7_digest_299 : decode cX7_digest 299 = .ok (.invokevirtual 231, 3) := by decide +kernel
theorem dX7_digest_302 : decode cX7_digest 302 = .ok (.i2l, 1) := by decide +kernel
theorem dX7_digest_303 : decode cX7_digest 303 = .ok (.invokestatic 206, 3) := by decide +kernel
theorem dX7_digest_306 : decode cX7_digest 306 = .ok (.lstore_n 1, 1) := by decide +kernel
theorem dX7_digest_307 : decode cX7_digest 307 = .ok (.iinc 3 1, 3) := by decide +kernel
theorem dX7_digest_310 : decode cX7_digest 310 = .ok (.goto (-20), 3) := by decide +kernel
theorem dX7_digest_313 : decode cX7_digest 313 = .ok (.lload_n 1, 1) := by decide +kernel
theorem dX7_digest_314 : decode cX7_digest 314 = .ok (.lreturn, 1) := by decide +kernel
theorem dX7_hasText_0 : decode cX7_hasText 0 = .ok (.aload_n 0, 1) := by decide +kernel
theorem dX7_hasText_1 : decode cX7_hasText 1 = .ok (.getfield 26, 3) := by decide +kernel
theorem dX7_hasText_4 : decode cX7_hasText 4 = .ok (.invokevirtual 123, 3) := by decide +kernel
theorem dX7_hasText_7 : decode cX7_hasText 7 = .ok (.ifCond .le 7, 3) := by decide +kernel
theorem dX7_hasText_10 : decode cX7_hasText 10 = .ok (.iconst 1, 1) := by decide +kernel
theorem dX7_hasText_11 : decode cX7_hasText 11 = .ok (.goto 4, 3) := by decide +kernel
theorem dX7_hasText_14 : decode cX7_hasText 14 = .ok (.iconst 0, 1) := by decide +kernel
theorem dX7_hasText_15 : decode cX7_hasText 15 = .ok (.ireturn, 1) := by decide +kernel
theorem dX7_isPrice_0 : decode cX7_isPrice 0 = .ok (.iload_n 0, 1) := by decide +kernel
theorem dX7_isPrice_1 : decode cX7_isPrice 1 = .ok (.ifCond .lt 13, 3) := by decide +kernel
theorem dX7_isPrice_4 : decode cX7_isPrice 4 = .ok (.iload_n 0, 1) := by decide +kernel
theorem dX7_isPrice_5 : decode cX7_isPrice 5 = .ok (.bipush 18, 2) := by decide +kernel
theorem dX7_isPrice_7 : decode cX7_isPrice 7 = .ok (.if_icmp .ge 7, 3) := by decide +kernel
theorem dX7_isPrice_10 : decode cX7_isPrice 10 = .ok (.iconst 1, 1) := by decide +kernel
theorem dX7_isPrice_11 : decode cX7_isPrice 11 = .ok (.goto 4, 3) := by decide +kernel
theorem dX7_isPrice_14 : decode cX7_isPrice 14 = .ok (.iconst 0, 1) := by decide +kernel
theorem dX7_isPrice_15 : decode cX7_isPrice 15 = .ok (.ireturn, 1) := by decide +kernel
theorem dX7_takeText_0 : decode cX7_takeText 0 = .ok (.aload_n 0, 1) := by decide +kernel
theorem dX7_takeText_1 : decode cX7_takeText 1 = .ok (.getfield 26, 3) := by decide +kernel
theorem dX7_takeText_4 : decode cX7_takeText 4 = .ok (.invokevirtual 234, 3) := by decide +kernel
theorem dX7_takeText_7 : decode cX7_takeText 7 = .ok (.aload_n 0, 1) := by decide +kernel
theorem dX7_takeText_8 : decode cX7_takeText 8 = .ok (.getfield 10, 3) := by decide +kernel
theorem dX7_takeText_11 : decode cX7_takeText 11 = .ok (.invokevirtual 98, 3) := by decide +kernel
theorem dX7_takeText_14 : decode cX7_takeText 14 = .ok (.aload_n 0, 1) := by decide +kernel
theorem dX7_takeText_15 : decode cX7_takeText 15 = .ok (.invokevirtual 152, 3) := by decide +kernel
theorem dX7_takeText_18 : decode cX7_takeText 18 = .ok (.return_, 1) := by decide +kernel
theorem dX7_forget_0 : decode cX7_forget 0 = .ok (.aload_n 0, 1) := by decide +kernel
theorem dX7_forget_1 : decode cX7_forget 1 = .ok (.iconst 0, 1) := by decide +kernel
theorem dX7_forget_2 : decode cX7_forget 2 = .ok (.putfield 60, 3) := by decide +kernel
theorem dX7_forget_5 : decode cX7_forget 5 = .ok (.aload_n 0, 1) := by decide +kernel
theorem dX7_forget_6 : decode cX7_forget 6 = .ok (.iconst 0, 1) := by decide +kernel
theorem dX7_forget_7 : decode cX7_forget 7 = .ok (.putfield 64, 3) := by decide +kernel
theorem dX7_forget_10 : decode cX7_forget 10 = .ok (.return_, 1) := by decide +kernel
theorem dX7_chooseCheapest_0 : decode cX7_chooseCheapest 0 = .ok (.aload_n 0, 1) := by decide +kernel
theorem dX7_chooseCheapest_1 : decode cX7_chooseCheapest 1 = .ok (.getfield 60, 3) := by decide +kernel
theorem dX7_chooseCheapest_4 : decode cX7_chooseCheapest 4 = .ok (.ifCond .eq 4, 3) := by decide +kernel
theorem dX7_chooseCheapest_7 : decode cX7_chooseCheapest 7 = .ok (.return_, 1) := by decide +kernel
theorem dX7_chooseCheapest_8 : decode cX7_chooseCheapest 8 = .ok (.aload_n 0, 1) := by decide +kernel
theorem dX7_chooseCheapest_9 : decode cX7_chooseCheapest 9 = .ok (.getfield 40, 3) := by decide +kernel
theorem dX7_chooseCheapest_12 : decode cX7_chooseCheapest 12 = .ok (.aload_n 0, 1) := by decide +kernel
theorem dX7_chooseCheapest_13 : decode cX7_chooseCheapest 13 = .ok (.getfield 26, 3) := by decide +kernel
theorem dX7_chooseCheapest_16 : decode cX7_chooseCheapest 16 = .ok (.aload_n 0, 1) := by decide +kernel
theorem dX7_chooseCheapest_17 : decode cX7_chooseCheapest 17 = .ok (.getfield 33, 3) := by decide +kernel
theorem dX7_chooseCheapest_20 : decode cX7_chooseCheapest 20 = .ok (.iconst 0, 1) := by decide +kernel
theorem dX7_chooseCheapest_21 : decode cX7_chooseCheapest 21 = .ok (.aload_n 0, 1) := by decide +kernel
theorem dX7_chooseCheapest_22 : decode cX7_chooseCheapest 22 = .ok (.getfield 26, 3) := by decide +kernel
theorem dX7_chooseCheapest_25 : decode cX7_chooseCheapest 25 = .ok (.invokevirtual 123, 3) := by decide +kernel
theorem dX7_chooseCheapest_28 : decode cX7_chooseCheapest 28 = .ok (.aload_n 0, 1) := by decide +kernel
theorem dX7_chooseCheapest_29 : decode cX7_chooseCheapest 29 = .ok (.getfield 47, 3) := by decide +kernel
theorem dX7_chooseCheapest_32 : decode cX7_chooseCheapest 32 = .ok (.invokevirtual 237, 3) := by decide +kernel
theorem dX7_chooseCheapest_35 : decode cX7_chooseCheapest 35 = .ok (.aload_n 0, 1) := by decide +kernel
theorem dX7_chooseCheapest_36 : decode cX7_chooseCheapest 36 = .ok (.iconst 1, 1) := by decide +kernel
theorem dX7_chooseCheapest_37 : decode cX7_chooseCheapest 37 = .ok (.putfield 60, 3) := by decide +kernel
theorem dX7_chooseCheapest_40 : decode cX7_chooseCheapest 40 = .ok (.return_, 1) := by decide +kernel
theorem dX7_chooseGreedy_0 : decode cX7_chooseGreedy 0 = .ok (.aload_n 0, 1) := by decide +kernel
theorem dX7_chooseGreedy_1 : decode cX7_chooseGreedy 1 = .ok (.getfield 51, 3) := by decide +kernel
theorem dX7_chooseGreedy_4 : decode cX7_chooseGreedy 4 = .ok (.invokevirtual 241, 3) := by decide +kernel
theorem dX7_chooseGreedy_7 : decode cX7_chooseGreedy 7 = .ok (.iconst 0, 1) := by decide +kernel
theorem dX7_chooseGreedy_8 : decode cX7_chooseGreedy 8 = .ok (.istore_n 1, 1) := by decide +kernel
theorem dX7_chooseGreedy_9 : decode cX7_chooseGreedy 9 = .ok (.iconst 0, 1) := by decide +kernel
theorem dX7_chooseGreedy_10 : decode cX7_chooseGreedy 10 = .ok (.istore_n 2, 1) := by decide +kernel
theorem dX7_chooseGreedy_11 : decode cX7_chooseGreedy 11 = .ok (.iload_n 2, 1) := by decide +kernel
theorem dX7_chooseGreedy_12 : decode cX7_chooseGreedy 12 = .ok (.aload_n 0, 1) := by decide +kernel
theorem dX7_chooseGreedy_13 : decode cX7_chooseGreedy 13 = .ok (.getfield 26, 3) := by decide +kernel
theorem dX7_chooseGreedy_16 : decode cX7_chooseGreedy 16 = .ok (.invokevirtual 123, 3) := by decide +kernel
theorem dX7_chooseGreedy_19 : decode cX7_chooseGreedy 19 = .ok (.if_icmp .ge 88, 3) := by decide +kernel
theorem dX7_chooseGreedy_22 : decode cX7_chooseGreedy 22 = .ok (.aload_n 0, 1) := by decide +kernel
theorem dX7_chooseGreedy_23 : decode cX7_chooseGreedy 23 = .ok (.getfield 26, 3) := by decide +kernel
theorem dX7_chooseGreedy_26 : decode cX7_chooseGreedy 26 = .ok (.iload_n 2, 1) := by decide +kernel
theorem dX7_chooseGreedy_27 : decode cX7_chooseGreedy 27 = .ok (.invokevirtual 173, 3) := by decide +kernel
theorem dX7_chooseGreedy_30 : decode cX7_chooseGreedy 30 = .ok (.istore_n 3, 1) := by decide +kernel
theorem dX7_chooseGreedy_31 : decode cX7_chooseGreedy 31 = .ok (.iload_n 3, 1) := by decide +kernel
theorem dX7_chooseGreedy_32 : decode cX7_chooseGreedy 32 = .ok (.ifCond .ne 24, 3) := by decide +kernel
theorem dX7_chooseGreedy_35 : decode cX7_chooseGreedy 35 = .ok (.aload_n 0, 1) := by decide +kernel
theorem dX7_chooseGreedy_36 : decode cX7_chooseGreedy 36 = .ok (.getfield 51, 3) := by decide +kernel
theorem dX7_chooseGreedy_39 : decode cX7_chooseGreedy 39 = .ok (.aload_n 0, 1) := by decide +kernel
theorem dX7_chooseGreedy_40 : decode cX7_chooseGreedy 40 = .ok (.getfield 26, 3) := by decide +kernel
theorem dX7_chooseGreedy_43 : decode cX7_chooseGreedy 43 = .ok (.iload_n 2, 1) := by decide +kernel
theorem dX7_chooseGreedy_44 : decode cX7_chooseGreedy 44 = .ok (.invokevirtual 170, 3) := by decide +kernel
theorem dX7_chooseGreedy_47 : decode cX7_chooseGreedy 47 = .ok (.invokevirtual 242, 3) := by decide +kernel
theorem dX7_chooseGreedy_50 : decode cX7_chooseGreedy 50 = .ok (.iinc 2 1, 3) := by decide +kernel
theorem dX7_chooseGreedy_53 : decode cX7_chooseGreedy 53 = .ok (.goto 51, 3) := by decide +kernel
theorem dX7_chooseGreedy_56 : decode cX7_chooseGreedy 56 = .ok (.aload_n 0, 1) := by decide +kernel
theorem dX7_chooseGreedy_57 : decode cX7_chooseGreedy 57 = .ok (.getfield 26, 3) := by decide +kernel
theorem dX7_chooseGreedy_60 : decode cX7_chooseGreedy 60 = .ok (.iload_n 2, 1) := by decide +kernel
theorem dX7_chooseGreedy_61 : decode cX7_chooseGreedy 61 = .ok (.iload_n 3, 1) := by decide +kernel
theorem dX7_chooseGreedy_62 : decode cX7_chooseGreedy 62 = .ok (.invokevirtual 176, 3) := by decide +kernel
theorem dX7_chooseGreedy_65 : decode cX7_chooseGreedy 65 = .ok (.istore 4, 2) := by decide +kernel
theorem dX7_chooseGreedy_67 : decode cX7_chooseGreedy 67 = .ok (.aload_n 0, 1) := by decide +kernel
theorem dX7_chooseGreedy_68 : decode cX7_chooseGreedy 68 = .ok (.getfield 51, 3) := by decide +kernel
theorem dX7_chooseGreedy_71 : decode cX7_chooseGreedy 71 = .ok (.iload_n 3, 1) := by decide +kernel
theorem dX7_chooseGreedy_72 : decode cX7_chooseGreedy 72 = .ok (.iload_n 1, 1) := by decide +kernel
theorem dX7_chooseGreedy_73 : decode cX7_chooseGreedy 73 = .ok (.if_icmp .ne 11, 3) := by decide +kernel
theorem dX7_chooseGreedy_76 : decode cX7_chooseGreedy 76 = .ok (.iload 4, 2) := by decide +kernel
theorem dX7_chooseGreedy_78 : decode cX7_chooseGreedy 78 = .ok (.invokestatic 243, 3) := by decide +kernel
theorem dX7_chooseGreedy_81 : decode cX7_chooseGreedy 81 = .ok (.goto 9, 3) := by decide +kernel
theorem dX7_chooseGreedy_84 : decode cX7_chooseGreedy 84 = .ok (.iload_n 3, 1) := by decide +kernel
theorem dX7_chooseGreedy_85 : decode cX7_chooseGreedy 85 = .ok (.iload 4, 2) := by decide +kernel
theorem dX7_chooseGreedy_87 : decode cX7_chooseGreedy 87 = .ok (.invokestatic 248, 3) := by decide +kernel
theorem dX7_chooseGreedy_90 : decode cX7_chooseGreedy 90 = .ok (.invokevirtual 242, 3) := by decide +kernel
theorem dX7_chooseGreedy_93 : decode cX7_chooseGreedy 93 = .ok (.iload_n 3, 1) := by decide +kernel
theorem dX7_chooseGreedy_94 : decode cX7_chooseGreedy 94 = .ok (.istore_n 1, 1) := by decide +kernel
theorem dX7_chooseGreedy_95 : decode cX7_chooseGreedy 95 = .ok (.iload_n 2, 1) := by decide +kernel
theorem dX7_chooseGreedy_96 : decode cX7_chooseGreedy 96 = .ok (.iconst 2, 1) := by decide +kernel
theorem dX7_chooseGreedy_97 : decode cX7_chooseGreedy 97 = .ok (.iload 4, 2) := by decide +kernel
theorem dX7_chooseGreedy_99 : decode cX7_chooseGreedy 99 = .ok (.invokestatic 251, 3) := by decide +kernel
theorem dX7_chooseGreedy_102 : decode cX7_chooseGreedy 102 = .ok (.iadd, 1) := by decide +kernel
theorem dX7_chooseGreedy_103 : decode cX7_chooseGreedy 103 = .ok (.istore_n 2, 1) := by decide +kernel
theorem dX7_chooseGreedy_104 : decode cX7_chooseGreedy 104 = .ok (.goto (-93), 3) := by decide +kernel
theorem dX7_chooseGreedy_107 : decode cX7_chooseGreedy 107 = .ok (.return_, 1) := by decide +kernel
theorem dX7_priceOfParts_0 : decode cX7_priceOfParts 0 = .ok (.iconst 0, 1) := by decide +kernel
theorem dX7_priceOfParts_1 : decode cX7_priceOfParts 1 = .ok (.istore_n 2, 1) := by decide +kernel
theorem dX7_priceOfParts_2 : decode cX7_priceOfParts 2 = .ok (.iconst 1, 1) := by decide +kernel
theorem dX7_priceOfParts_3 : decode cX7_priceOfParts 3 = .ok (.iload_n 1, 1) := by decide +kernel
theorem dX7_priceOfParts_4 : decode cX7_priceOfParts 4 = .ok (.invokestatic 251, 3) := by decide +kernel
theorem dX7_priceOfParts_7 : decode cX7_priceOfParts 7 = .ok (.istore_n 3, 1) := by decide +kernel
theorem dX7_priceOfParts_8 : decode cX7_priceOfParts 8 = .ok (.iconst 0, 1) := by decide +kernel
theorem dX7_priceOfParts_9 : decode cX7_priceOfParts 9 = .ok (.istore 4, 2) := by decide +kernel
theorem dX7_priceOfParts_11 : decode cX7_priceOfParts 11 = .ok (.iload 4, 2) := by decide +kernel
theorem dX7_priceOfParts_13 : decode cX7_priceOfParts 13 = .ok (.aload_n 0, 1) := by decide +kernel
theorem dX7_priceOfParts_14 : decode cX7_priceOfParts 14 = .ok (.getfield 26, 3) := by decide +kernel
theorem dX7_priceOfParts_17 : decode cX7_priceOfParts 17 = .ok (.invokevirtual 123, 3) := by decide +kernel
theorem dX7_priceOfParts_20 : decode cX7_priceOfParts 20 = .ok (.if_icmp .ge 61, 3) := by decide +kernel
theorem dX7_priceOfParts_23 : decode cX7_priceOfParts 23 = .ok (.aload_n 0, 1) := by decide +kernel
theorem dX7_priceOfParts_24 : decode cX7_priceOfParts 24 = .ok (.getfield 40, 3) := by decide +kernel
theorem dX7_priceOfParts_27 : decode cX7_priceOfParts 27 = .ok (.aload_n 0, 1) := by decide +kernel
theorem dX7_priceOfParts_28 : decode cX7_priceOfParts 28 = .ok (.getfield 26, 3) := by decide +kernel
theorem dX7_priceOfParts_31 : decode cX7_priceOfParts 31 = .ok (.aload_n 0, 1) := by decide +kernel
theorem dX7_priceOfParts_32 : decode cX7_priceOfParts 32 = .ok (.getfield 33, 3) := by decide +kernel
theorem dX7_priceOfParts_35 : decode cX7_priceOfParts 35 = .ok (.iload 4, 2) := by decide +kernel
theorem dX7_priceOfParts_37 : decode cX7_priceOfParts 37 = .ok (.iload 4, 2) := by decide +kernel
theorem dX7_priceOfParts_39 : decode cX7_priceOfParts 39 = .ok (.iload_n 3, 1) := by decide +kernel
theorem dX7_priceOfParts_40 : decode cX7_priceOfParts 40 = .ok (.iadd, 1) := by decide +kernel
theorem dX7_priceOfParts_41 : decode cX7_priceOfParts 41 = .ok (.aload_n 0, 1) := by decide +kernel
theorem dX7_priceOfParts_42 : decode cX7_priceOfParts 42 = .ok (.getfield 26, 3) := by decide +kernel
theorem dX7_priceOfParts_45 : decode cX7_priceOfParts 45 = .ok (.invokevirtual 123, 3) := by decide +kernel
theorem dX7_priceOfParts_48 : decode cX7_priceOfParts 48 = .ok (.invokestatic 256, 3) := by decide +kernel
theorem dX7_priceOfParts_51 : decode cX7_priceOfParts 51 = .ok (.aload_n 0, 1) := by decide +kernel
theorem dX7_priceOfParts_52 : decode cX7_priceOfParts 52 = .ok (.getfield 57, 3) := by decide +kernel
theorem dX7_priceOfParts_55 : decode cX7_priceOfParts 55 = .ok (.invokevirtual 237, 3) := by decide +kernel
theorem dX7_priceOfParts_58 : decode cX7_priceOfParts 58 = .ok (.iload_n 2, 1) := by decide +kernel
theorem dX7_priceOfParts_59 : decode cX7_priceOfParts 59 = .ok (.aload_n 0, 1) := by decide +kernel
theorem dX7_priceOfParts_60 : decode cX7_priceOfParts 60 = .ok (.getfield 33, 3) := by decide +kernel
theorem dX7_priceOfParts_63 : decode cX7_priceOfParts 63 = .ok (.aload_n 0, 1) := by decide +kernel
theorem dX7_priceOfParts_64 : decode cX7_priceOfParts 64 = .ok (.getfield 57, 3) := by decide +kernel
theorem dX7_priceOfParts_67 : decode cX7_priceOfParts 67 = .ok (.invokevirtual 137, 3) := by decide +kernel
theorem dX7_priceOfParts_70 : decode cX7_priceOfParts 70 = .ok (.iadd, 1) := by decide +kernel
theorem dX7_priceOfParts_71 : decode cX7_priceOfParts 71 = .ok (.istore_n 2, 1) := by decide +kernel
theorem dX7_priceOfParts_72 : decode cX7_priceOfParts 72 = .ok (.iload 4, 2) := by decide +kernel
theorem dX7_priceOfParts_74 : decode cX7_priceOfParts 74 = .ok (.iload_n 3, 1) := by decide +kernel
theorem dX7_priceOfParts_75 : decode cX7_priceOfParts 75 = .ok (.iadd, 1) := by decide +kernel
theorem dX7_priceOfParts_76 : decode cX7_priceOfParts 76 = .ok (.istore 4, 2) := by decide +kernel
theorem dX7_priceOfParts_78 : decode cX7_priceOfParts 78 = .ok (.goto (-67), 3) := by decide +kernel
theorem dX7_priceOfParts_81 : decode cX7_priceOfParts 81 = .ok (.iload_n 2, 1) := by decide +kernel
theorem dX7_priceOfParts_82 : decode cX7_priceOfParts 82 = .ok (.ireturn, 1) := by decide +kernel
theorem dX7_findRest_0 : decode cX7_findRest 0 = .ok (.aload_n 0, 1) := by decide +kernel
theorem dX7_findRest_1 : decode cX7_findRest 1 = .ok (.getfield 64, 3) := by decide +kernel
theorem dX7_findRest_4 : decode cX7_findRest 4 = .ok (.ifCond .eq 4, 3) := by decide +kernel
theorem dX7_findRest_7 : decode cX7_findRest 7 = .ok (.return_, 1) := by decide +kernel
theorem dX7_findRest_8 : decode cX7_findRest 8 = .ok (.aload_n 0, 1) := by decide +kernel
theorem dX7_findRest_9 : decode cX7_findRest 9 = .ok (.iconst (-1), 1) := by decide +kernel
theorem dX7_findRest_10 : decode cX7_findRest 10 = .ok (.putfield 67, 3) := by decide +kernel
theorem dX7_findRest_13 : decode cX7_findRest 13 = .ok (.aload_n 0, 1) := by decide +kernel
theorem dX7_findRest_14 : decode cX7_findRest 14 = .ok (.getfield 54, 3) := by decide +kernel
theorem dX7_findRest_17 : decode cX7_findRest 17 = .ok (.aload_n 0, 1) := by decide +kernel
theorem dX7_findRest_18 : decode cX7_findRest 18 = .ok (.getfield 33, 3) := by decide +kernel
theorem dX7_findRest_21 : decode cX7_findRest 21 = .ok (.invokevirtual 259, 3) := by decide +kernel
theorem dX7_findRest_24 : decode cX7_findRest 24 = .ok (.iconst 0, 1) := by decide +kernel
theorem dX7_findRest_25 : decode cX7_findRest 25 = .ok (.istore_n 1, 1) := by decide +kernel
theorem dX7_findRest_26 : decode cX7_findRest 26 = .ok (.iload_n 1, 1) := by decide +kernel
theorem dX7_findRest_27 : decode cX7_findRest 27 = .ok (.bipush 12, 2) := by decide +kernel
theorem dX7_findRest_29 : decode cX7_findRest 29 = .ok (.if_icmp .gt 89, 3) := by decide +kernel
theorem dX7_findRest_32 : decode cX7_findRest 32 = .ok (.aload_n 0, 1) := by decide +kernel
theorem dX7_findRest_33 : decode cX7_findRest 33 = .ok (.getfield 67, 3) := by decide +kernel
theorem dX7_findRest_36 : decode cX7_findRest 36 = .ok (.iconst (-1), 1) := by decide +kernel
theorem dX7_findRest_37 : decode cX7_findRest 37 = .ok (.if_icmp .ne 81, 3) := by decide +kernel
theorem dX7_findRest_40 : decode cX7_findRest 40 = .ok (.aload_n 0, 1) := by decide +kernel
theorem dX7_findRest_41 : decode cX7_findRest 41 = .ok (.getfield 40, 3) := by decide +kernel
theorem dX7_findRest_44 : decode cX7_findRest 44 = .ok (.aload_n 0, 1) := by decide +kernel
theorem dX7_findRest_45 : decode cX7_findRest 45 = .ok (.getfield 26, 3) := by decide +kernel
theorem dX7_findRest_48 : decode cX7_findRest 48 = .ok (.aload_n 0, 1) := by decide +kernel
theorem dX7_findRest_49 : decode cX7_findRest 49 = .ok (.getfield 54, 3) := by decide +kernel
theorem dX7_findRest_52 : decode cX7_findRest 52 = .ok (.iconst 0, 1) := by decide +kernel
theorem dX7_findRest_53 : decode cX7_findRest 53 = .ok (.aload_n 0, 1) := by decide +kernel
theorem dX7_findRest_54 : decode cX7_findRest 54 = .ok (.getfield 26, 3) := by decide +kernel
theorem dX7_findRest_57 : decode cX7_findRest 57 = .ok (.invokevirtual 123, 3) := by decide +kernel
theorem dX7_findRest_60 : decode cX7_findRest 60 = .ok (.aload_n 0, 1) := by decide +kernel
theorem dX7_findRest_61 : decode cX7_findRest 61 = .ok (.getfield 57, 3) := by decide +kernel
theorem dX7_findRest_64 : decode cX7_findRest 64 = .ok (.invokevirtual 237, 3) := by decide +kernel
theorem dX7_findRest_67 : decode cX7_findRest 67 = .ok (.aload_n 0, 1) := by decide +kernel
theorem dX7_findRest_68 : decode cX7_findRest 68 = .ok (.aload_n 0, 1) := by decide +kernel
theorem dX7_findRest_69 : decode cX7_findRest 69 = .ok (.getfield 54, 3) := by decide +kernel
theorem dX7_findRest_72 : decode cX7_findRest 72 = .ok (.aload_n 0, 1) := by decide +kernel
theorem dX7_findRest_73 : decode cX7_findRest 73 = .ok (.getfield 57, 3) := by decide +kernel
theorem dX7_findRest_76 : decode cX7_findRest 76 = .ok (.invokevirtual 137, 3) := by decide +kernel
theorem dX7_findRest_79 : decode cX7_findRest 79 = .ok (.putfield 71, 3) := by decide +kernel
theorem dX7_findRest_82 : decode cX7_findRest 82 = .ok (.aload_n 0, 1) := by decide +kernel
theorem dX7_findRest_83 : decode cX7_findRest 83 = .ok (.aload_n 0, 1) := by decide +kernel
theorem dX7_findRest_84 : decode cX7_findRest 84 = .ok (.getfield 57, 3) := by decide +kernel
theorem dX7_findRest_87 : decode cX7_findRest 87 = .ok (.invokevirtual 184, 3) := by decide +kernel
theorem dX7_findRest_90 : decode cX7_findRest 90 = .ok (.putfield 74, 3) := by decide +kernel
theorem dX7_findRest_93 : decode cX7_findRest 93 = .ok (.aload_n 0, 1) := by decide +kernel
theorem dX7_findRest_94 : decode cX7_findRest 94 = .ok (.getfield 54, 3) := by decide +kernel
theorem dX7_findRest_97 : decode cX7_findRest 97 = .ok (.aload_n 0, 1) := by decide +kernel
theorem dX7_findRest_98 : decode cX7_findRest 98 = .ok (.getfield 57, 3) := by decide +kernel
theorem dX7_findRest_101 : decode cX7_findRest 101 = .ok (.invokevirtual 161, 3) := by decide +kernel
theorem dX7_findRest_104 : decode cX7_findRest 104 = .ok (.ifCond .ne 8, 3) := by decide +kernel
theorem dX7_findRest_107 : decode cX7_findRest 107 = .ok (.aload_n 0, 1) := by decide +kernel
theorem dX7_findRest_108 : decode cX7_findRest 108 = .ok (.iload_n 1, 1) := by decide +kernel
theorem dX7_findRest_109 : decode cX7_findRest 109 = .ok (.putfield 67, 3) := by decide +kernel
theorem dX7_findRest_112 : decode cX7_findRest 112 = .ok (.iinc 1 1, 3) := by decide +kernel
theorem dX7_findRest_115 : decode cX7_findRest 115 = .ok (.goto (-89), 3) := by decide +kernel
theorem dX7_findRest_118 : decode cX7_findRest 118 = .ok (.aload_n 0, 1) := by decide +kernel
theorem dX7_findRest_119 : decode cX7_findRest 119 = .ok (.iconst 1, 1) := by decide +kernel
theorem dX7_findRest_120 : decode cX7_findRest 120 = .ok (.putfield 64, 3) := by decide +kernel
theorem dX7_findRest_123 : decode cX7_findRest 123 = .ok (.return_, 1) := by decide +kernel
theorem dX7_mix_0 : decode cX7_mix 0 = .ok (.ldc2_w 263, 3) := by decide +kernel
theorem dX7_mix_3 : decode cX7_mix 3 = .ok (.lload_n 0, 1) := by decide +kernel
theorem dX7_mix_4 : decode cX7_mix 4 = .ok (.lmul, 1) := by decide +kernel
theorem dX7_mix_5 : decode cX7_mix 5 = .ok (.lload_n 2, 1) := by decide +kernel
theorem dX7_mix_6 : decode cX7_mix 6 = .ok (.ladd, 1) := by decide +kernel
theorem dX7_mix_7 : decode cX7_mix 7 = .ok (.lreturn, 1) := by decide +kernel
theorem dX7_log_0 : decode cX7_log 0 = .ok (.iconst 0, 1) := by decide +kernel
theorem dX7_log_1 : decode cX7_log 1 = .ok (.istore_n 1, 1) := by decide +kernel
theorem dX7_log_2 : decode cX7_log 2 = .ok (.iload_n 0, 1) := by decide +kernel
theorem dX7_log_3 : decode cX7_log 3 = .ok (.istore_n 2, 1) := by decide +kernel
theorem dX7_log_4 : decode cX7_log 4 = .ok (.iload_n 2, 1) := by decide +kernel
theorem dX7_log_5 : decode cX7_log 5 = .ok (.iconst 1, 1) := by decide +kernel
theorem dX7_log_6 : decode cX7_log 6 = .ok (.if_icmp .le 13, 3) := by decide +kernel
theorem dX7_log_9 : decode cX7_log 9 = .ok (.iinc 1 1, 3) := by decide +kernel
theorem dX7_log_12 : decode cX7_log 12 = .ok (.iload_n 2, 1) := by decide +kernel
theorem dX7_log_13 : decode cX7_log 13 = .ok (.iconst 2, 1) := by decide +kernel
theorem dX7_log_14 : decode cX7_log 14 = .ok (.idiv, 1) := by decide +kernel
theorem dX7_log_15 : decode cX7_log 15 = .ok (.istore_n 2, 1) := by decide +kernel
theorem dX7_log_16 : decode cX7_log 16 = .ok (.goto (-12), 3) := by decide +kernel
theorem dX7_log_19 : decode cX7_log 19 = .ok (.iload_n 1, 1) := by decide +kernel
theorem dX7_log_20 : decode cX7_log 20 = .ok (.ireturn, 1) := by decide +kernel
theorem dX8_init_0 : decode cX8_init 0 = .ok (.aload_n 0, 1) := by decide +kernel
theorem dX8_init_1 : decode cX8_init 1 = .ok (.invokespecial 1, 3) := by decide +kernel
theorem dX8_init_4 : decode cX8_init 4 = .ok (.aload_n 0, 1) := by decide +kernel
theorem dX8_init_5 : decode cX8_init 5 = .ok (.bipush 30, 2) := by decide +kernel
theorem dX8_init_7 : decode cX8_init 7 = .ok (.newarray .int, 2) := by decide +kernel
theorem dX8_init_9 : decode cX8_init 9 = .ok (.putfield 7, 3) := by decide +kernel
theorem dX8_init_12 : decode cX8_init 12 = .ok (.aload_n 0, 1) := by decide +kernel
theorem dX8_init_13 : decode cX8_init 13 = .ok (.bipush 24, 2) := by decide +kernel
theorem dX8_init_15 : decode cX8_init 15 = .ok (.newarray .int, 2) := by decide +kernel
theorem dX8_init_17 : decode cX8_init 17 = .ok (.putfield 13, 3) := by decide +kernel
theorem dX8_init_20 : decode cX8_init 20 = .ok (.aload_n 0, 1) := by decide +kernel
theorem dX8_init_21 : decode cX8_init 21 = .ok (.bipush 18, 2) := by decide +kernel
theorem dX8_init_23 : decode cX8_init 23 = .ok (.newarray .int, 2) := by decide +kernel
theorem dX8_init_25 : decode cX8_init 25 = .ok (.putfield 16, 3) := by decide +kernel
theorem dX8_init_28 : decode cX8_init 28 = .ok (.aload_n 0, 1) := by decide +kernel
theorem dX8_init_29 : decode cX8_init 29 = .ok (.bipush 24, 2) := by decide +kernel
theorem dX8_init_31 : decode cX8_init 31 = .ok (.newarray .int, 2) := by decide +kernel
theorem dX8_init_33 : decode cX8_init 33 = .ok (.putfield 19, 3) := by decide +kernel
theorem dX8_init_36 : decode cX8_init 36 = .ok (.aload_n 0, 1) := by decide +kernel
theorem dX8_init_37 : decode cX8_init 37 = .ok (.sipush 625, 3) := by decide +kernel
theorem dX8_init_40 : decode cX8_init 40 = .ok (.newarray .int, 2) := by decide +kernel
theorem dX8_init_42 : decode cX8_init 42 = .ok (.putfield 22, 3) := by decide +kernel
theorem dX8_init_45 : decode cX8_init 45 = .ok (.aload_n 0, 1) := by decide +kernel
theorem dX8_init_46 : decode cX8_init 46 = .ok (.sipush 625, 3) := by decide +kernel
theorem dX8_init_49 : decode cX8_init 49 = .ok (.newarray .int, 2) := by decide +kernel
theorem dX8_init_51 : decode cX8_init 51 = .ok (.putfield 25, 3) := by decide +kernel
theorem dX8_init_54 : decode cX8_init 54 = .ok (.aload_n 0, 1) := by decide +kernel
theorem dX8_init_55 : decode cX8_init 55 = .ok (.sipush 625, 3) := by decide +kernel
theorem dX8_init_58 : decode cX8_init 58 = .ok (.newarray .int, 2) := by decide +kernel
theorem dX8_init_60 : decode cX8_init 60 = .ok (.putfield 28, 3) := by decide +kernel
theorem dX8_init_63 : decode cX8_init 63 = .ok (.aload_n 0, 1) := by decide +kernel
theorem dX8_init_64 : decode cX8_init 64 = .ok (.sipush 625, 3) := by decide +kernel
theorem dX8_init_67 : decode cX8_init 67 = .ok (.newarray .int, 2) := by decide +kernel
theorem dX8_init_69 : decode cX8_init 69 = .ok (.putfield 31, 3) := by decide +kernel
theorem dX8_init_72 : decode cX8_init 72 = .ok (.aload_n 0, 1) := by decide +kernel
theorem dX8_init_73 : decode cX8_init 73 = .ok (.bipush 24, 2) := by decide +kernel
theorem dX8_init_75 : decode cX8_init 75 = .ok (.newarray .int, 2) := by decide +kernel
theorem dX8_init_77 : decode cX8_init 77 = .ok (.putfield 34, 3) := by decide +kernel
theorem dX8_init_80 : decode cX8_init 80 = .ok (.aload_n 0, 1) := by decide +kernel
theorem dX8_init_81 : decode cX8_init 81 = .ok (.bipush 18, 2) := by decide +kernel
theorem dX8_init_83 : decode cX8_init 83 = .ok (.newarray .int, 2) := by decide +kernel
theorem dX8_init_85 : decode cX8_init 85 = .ok (.putfield 37, 3) := by decide +kernel
theorem dX8_init_88 : decode cX8_init 88 = .ok (.aload_n 0, 1) := by decide +kernel
theorem dX8_init_89 : decode cX8_init 89 = .ok (.bipush 18, 2) := by decide +kernel
theorem dX8_init_91 : decode cX8_init 91 = .ok (.newarray .int, 2) := by decide +kernel
theorem dX8_init_93 : decode cX8_init 93 = .ok (.putfield 40, 3) := by decide +kernel
theorem dX8_init_96 : decode cX8_init 96 = .ok (.aload_n 0, 1) := by decide +kernel
theorem dX8_init_97 : decode cX8_init 97 = .ok (.bipush 18, 2) := by decide +kernel
theorem dX8_init_99 : decode cX8_init 99 = .ok (.newarray .int, 2) := by decide +kernel
theorem dX8_init_101 : decode cX8_init 101 = .ok (.putfield 43, 3) := by decide +kernel
theorem dX8_init_104 : decode cX8_init 104 = .ok (.aload_n 0, 1) := by decide +kernel
theorem dX8_init_105 : decode cX8_init 105 = .ok (.iconst 3, 1) := by decide +kernel
theorem dX8_init_106 : decode cX8_init 106 = .ok (.newarray .int, 2) := by decide +kernel
theorem dX8_init_108 : decode cX8_init 108 = .ok (.putfield 46, 3) := by decide +kernel
theorem dX8_init_111 : decode cX8_init 111 = .ok (.iconst 0, 1) := by decide +kernel
theorem dX8_init_112 : decode cX8_init 112 = .ok (.istore_n 1, 1) := by decide +kernel
theorem dX8_init_113 : decode cX8_init 113 = .ok (.iload_n 1, 1) := by decide +kernel
theorem dX8_init_114 : decode cX8_init 114 = .ok (.bipush 18, 2) := by decide +kernel
theorem dX8_init_116 : decode cX8_init 116 = .ok (.if_icmp .ge 77, 3) := by decide +kernel
theorem dX8_init_119 : decode cX8_init 119 = .ok (.aload_n 0, 1) := by decide +kernel
theorem dX8_init_120 : decode cX8_init 120 = .ok (.getfield 16, 3) := by decide +kernel
theorem dX8_init_123 : decode cX8_init 123 = .ok (.iload_n 1, 1) := by decide +kernel
theorem dX8_init_124 : decode cX8_init 124 = .ok (.iload_n 1, 1) := by decide +kernel
theorem dX8_init_125 : decode cX8_init 125 = .ok (.iconst 4, 1) := by decide +kernel
theorem dX8_init_126 : decode cX8_init 126 = .ok (.if_icmp .ge 8, 3) := by decide +kernel
theorem dX8_init_129 : decode cX8_init 129 = .ok (.bipush 8, 2) := by decide +kernel
theorem dX8_init_131 : decode cX8_init 131 = .ok (.goto 55, 3) := by decide +kernel
theorem dX8_init_134 : decode cX8_init 134 = .ok (.iload_n 1, 1) := by decide +kernel
theorem dX8_init_135 : decode cX8_init 135 = .ok (.iconst 4, 1) := by decide +kernel
theorem dX8_init_136 : decode cX8_init 136 = .ok (.if_icmp .ne 7, 3) := by decide +kernel
theorem dX8_init_139 : decode cX8_init 139 = .ok (.iconst 4, 1) := by decide +kernel
theorem dX8_init_140 : decode cX8_init 140 = .ok (.goto 46, 3) := by decide +kernel
theorem dX8_init_143 : decode cX8_init 143 = .ok (.iload_n 1, 1) := by decide +kernel
theorem dX8_init_144 : decode cX8_init 144 = .ok (.bipush 10, 2) := by decide +kernel
theorem dX8_init_146 : decode cX8_init 146 = .ok (.if_icmp .ge 9, 3) := by decide +kernel
theorem dX8_init_149 : decode cX8_init 149 = .ok (.iload_n 1, 1) := by decide +kernel
theorem dX8_init_150 : decode cX8_init 150 = .ok (.iconst 3, 1) := by decide +kernel
theorem dX8_init_151 : decode cX8_init 151 = .ok (.isub, 1) := by decide +kernel
theorem dX8_init_152 : decode cX8_init 152 = .ok (.goto 34, 3) := by decide +kernel
theorem dX8_init_155 : decode cX8_init 155 = .ok (.iload_n 1, 1) := by decide +kernel
theorem dX8_init_156 : decode cX8_init 156 = .ok (.bipush 17, 2) := by decide +kernel
theorem dX8_init_158 : decode cX8_init 158 = .ok (.if_icmp .ne 7, 3) := by decide +kernel
theorem dX8_init_161 : decode cX8_init 161 = .ok (.iconst 3, 1) := by decide +kernel
theorem dX8_init_162 : decode cX8_init 162 = .ok (.goto 24, 3) := by decide +kernel
theorem dX8_init_165 : decode cX8_init 165 = .ok (.iload_n 1, 1) := by decide +kernel
theorem dX8_init_166 : decode cX8_init 166 = .ok (.bipush 12, 2) := by decide +kernel
theorem dX8_init_168 : decode cX8_init 168 = .ok (.if_icmp .ge 7, 3) := by decide +kernel
theorem dX8_init_171 : decode cX8_init 171 = .ok (.iconst 1, 1) := by decide +kernel
theorem dX8_init_172 : decode cX8_init 172 = .ok (.goto 14, 3) := by decide +kernel
theorem dX8_init_175 : decode cX8_init 175 = .ok (.iload_n 1, 1) := by decide +kernel
theorem dX8_init_176 : decode cX8_init 176 = .ok (.bipush 14, 2) := by decide +kernel
theorem dX8_init_178 : decode cX8_init 178 = .ok (.if_icmp .ge 7, 3) := by decide +kernel
theorem dX8_init_181 : decode cX8_init 181 = .ok (.iconst 2, 1) := by decide +kernel
theorem dX8_init_182 : decode cX8_init 182 = .ok (.goto 4, 3) := by decide +kernel
theorem dX8_init_185 : decode cX8_init 185 = .ok (.iconst 3, 1) := by decide +kernel
theorem dX8_init_186 : decode cX8_init 186 = .ok (.iastore, 1) := by decide +kernel
theorem dX8_init_187 : decode cX8_init 187 = .ok (.iinc 1 1, 3) := by decide +kernel
theorem dX8_init_190 : decode cX8_init 190 = .ok (.goto (-77), 3) := by decide +kernel
theorem dX8_init_193 : decode cX8_init 193 = .ok (.return_, 1) := by decide +kernel
theorem dX8_within_0 : decode cX8_within 0 = .ok (.iload_n 0, 1) := by decide +kernel
theorem dX8_within_1 : decode cX8_within 1 = .ok (.iload_n 1, 1) := by decide +kernel
theorem dX8_within_2 : decode cX8_within 2 = .ok (.if_icmp .lt 12, 3) := by decide +kernel
theorem dX8_within_5 : decode cX8_within 5 = .ok (.iload_n 0, 1) := by decide +kernel
theorem dX8_within_6 : decode cX8_within 6 = .ok (.iload_n 2, 1) := by decide +kernel
