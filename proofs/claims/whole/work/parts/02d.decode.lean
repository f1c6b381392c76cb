theorem dX8_within_7 : decode cX8_within 7 = .ok (.if_icmp .gt 7, 3) := by decide +kernel
theorem dX8_within_10 : decode cX8_within 10 = .ok (.iconst 1, 1) := by decide +kernel
theorem dX8_within_11 : decode cX8_within 11 = .ok (.goto 4, 3) := by decide +kernel
theorem dX8_within_14 : decode cX8_within 14 = .ok (.iconst 0, 1) := by decide +kernel
theorem dX8_within_15 : decode cX8_within 15 = .ok (.ireturn, 1) := by decide +kernel
theorem dX8_letter_0 : decode cX8_letter 0 = .ok (.iload_n 1, 1) := by decide +kernel
theorem dX8_letter_1 : decode cX8_letter 1 = .ok (.bipush 32, 2) := by decide +kernel
theorem dX8_letter_3 : decode cX8_letter 3 = .ok (.bipush 126, 2) := by decide +kernel
theorem dX8_letter_5 : decode cX8_letter 5 = .ok (.invokestatic 49, 3) := by decide +kernel
theorem dX8_letter_8 : decode cX8_letter 8 = .ok (.ifCond .ne 7, 3) := by decide +kernel
theorem dX8_letter_11 : decode cX8_letter 11 = .ok (.sipush (-1002), 3) := by decide +kernel
theorem dX8_letter_14 : decode cX8_letter 14 = .ok (.ireturn, 1) := by decide +kernel
theorem dX8_letter_15 : decode cX8_letter 15 = .ok (.aload_n 0, 1) := by decide +kernel
theorem dX8_letter_16 : decode cX8_letter 16 = .ok (.getfield 53, 3) := by decide +kernel
theorem dX8_letter_19 : decode cX8_letter 19 = .ok (.bipush 30, 2) := by decide +kernel
theorem dX8_letter_21 : decode cX8_letter 21 = .ok (.if_icmp .ne 7, 3) := by decide +kernel
theorem dX8_letter_24 : decode cX8_letter 24 = .ok (.sipush (-1004), 3) := by decide +kernel
theorem dX8_letter_27 : decode cX8_letter 27 = .ok (.ireturn, 1) := by decide +kernel
theorem dX8_letter_28 : decode cX8_letter 28 = .ok (.aload_n 0, 1) := by decide +kernel
theorem dX8_letter_29 : decode cX8_letter 29 = .ok (.getfield 7, 3) := by decide +kernel
theorem dX8_letter_32 : decode cX8_letter 32 = .ok (.aload_n 0, 1) := by decide +kernel
theorem dX8_letter_33 : decode cX8_letter 33 = .ok (.getfield 53, 3) := by decide +kernel
theorem dX8_letter_36 : decode cX8_letter 36 = .ok (.iload_n 1, 1) := by decide +kernel
theorem dX8_letter_37 : decode cX8_letter 37 = .ok (.iastore, 1) := by decide +kernel
theorem dX8_letter_38 : decode cX8_letter 38 = .ok (.aload_n 0, 1) := by decide +kernel
theorem dX8_letter_39 : decode cX8_letter 39 = .ok (.dup, 1) := by decide +kernel
theorem dX8_letter_40 : decode cX8_letter 40 = .ok (.getfield 53, 3) := by decide +kernel
theorem dX8_letter_43 : decode cX8_letter 43 = .ok (.iconst 1, 1) := by decide +kernel
theorem dX8_letter_44 : decode cX8_letter 44 = .ok (.iadd, 1) := by decide +kernel
theorem dX8_letter_45 : decode cX8_letter 45 = .ok (.putfield 53, 3) := by decide +kernel
theorem dX8_letter_48 : decode cX8_letter 48 = .ok (.aload_n 0, 1) := by decide +kernel
theorem dX8_letter_49 : decode cX8_letter 49 = .ok (.getfield 53, 3) := by decide +kernel
theorem dX8_letter_52 : decode cX8_letter 52 = .ok (.ireturn, 1) := by decide +kernel
theorem dX8_blank_0 : decode cX8_blank 0 = .ok (.aload_n 0, 1) := by decide +kernel
theorem dX8_blank_1 : decode cX8_blank 1 = .ok (.getfield 53, 3) := by decide +kernel
theorem dX8_blank_4 : decode cX8_blank 4 = .ok (.istore_n 1, 1) := by decide +kernel
theorem dX8_blank_5 : decode cX8_blank 5 = .ok (.aload_n 0, 1) := by decide +kernel
theorem dX8_blank_6 : decode cX8_blank 6 = .ok (.iconst 0, 1) := by decide +kernel
theorem dX8_blank_7 : decode cX8_blank 7 = .ok (.putfield 53, 3) := by decide +kernel
theorem dX8_blank_10 : decode cX8_blank 10 = .ok (.iload_n 1, 1) := by decide +kernel
theorem dX8_blank_11 : decode cX8_blank 11 = .ok (.ireturn, 1) := by decide +kernel
theorem dX8_textFault_0 : decode cX8_textFault 0 = .ok (.iconst 0, 1) := by decide +kernel
theorem dX8_textFault_1 : decode cX8_textFault 1 = .ok (.istore_n 1, 1) := by decide +kernel
theorem dX8_textFault_2 : decode cX8_textFault 2 = .ok (.iload_n 1, 1) := by decide +kernel
theorem dX8_textFault_3 : decode cX8_textFault 3 = .ok (.aload_n 0, 1) := by decide +kernel
theorem dX8_textFault_4 : decode cX8_textFault 4 = .ok (.getfield 53, 3) := by decide +kernel
theorem dX8_textFault_7 : decode cX8_textFault 7 = .ok (.if_icmp .ge 31, 3) := by decide +kernel
theorem dX8_textFault_10 : decode cX8_textFault 10 = .ok (.iload_n 1, 1) := by decide +kernel
theorem dX8_textFault_11 : decode cX8_textFault 11 = .ok (.bipush 24, 2) := by decide +kernel
theorem dX8_textFault_13 : decode cX8_textFault 13 = .ok (.if_icmp .ge 25, 3) := by decide +kernel
theorem dX8_textFault_16 : decode cX8_textFault 16 = .ok (.aload_n 0, 1) := by decide +kernel
theorem dX8_textFault_17 : decode cX8_textFault 17 = .ok (.getfield 7, 3) := by decide +kernel
theorem dX8_textFault_20 : decode cX8_textFault 20 = .ok (.iload_n 1, 1) := by decide +kernel
theorem dX8_textFault_21 : decode cX8_textFault 21 = .ok (.iaload, 1) := by decide +kernel
theorem dX8_textFault_22 : decode cX8_textFault 22 = .ok (.bipush 97, 2) := by decide +kernel
theorem dX8_textFault_24 : decode cX8_textFault 24 = .ok (.bipush 100, 2) := by decide +kernel
theorem dX8_textFault_26 : decode cX8_textFault 26 = .ok (.invokestatic 49, 3) := by decide +kernel
theorem dX8_textFault_29 : decode cX8_textFault 29 = .ok (.ifCond .eq 9, 3) := by decide +kernel
theorem dX8_textFault_32 : decode cX8_textFault 32 = .ok (.iinc 1 1, 3) := by decide +kernel
theorem dX8_textFault_35 : decode cX8_textFault 35 = .ok (.goto (-33), 3) := by decide +kernel
theorem dX8_textFault_38 : decode cX8_textFault 38 = .ok (.iload_n 1, 1) := by decide +kernel
theorem dX8_textFault_39 : decode cX8_textFault 39 = .ok (.ireturn, 1) := by decide +kernel
theorem dX8_farOf_0 : decode cX8_farOf 0 = .ok (.iload_n 0, 1) := by decide +kernel
theorem dX8_farOf_1 : decode cX8_farOf 1 = .ok (.iconst 1, 1) := by decide +kernel
theorem dX8_farOf_2 : decode cX8_farOf 2 = .ok (.if_icmp .ne 7, 3) := by decide +kernel
theorem dX8_farOf_5 : decode cX8_farOf 5 = .ok (.iconst 0, 1) := by decide +kernel
theorem dX8_farOf_6 : decode cX8_farOf 6 = .ok (.goto 33, 3) := by decide +kernel
theorem dX8_farOf_9 : decode cX8_farOf 9 = .ok (.iload_n 0, 1) := by decide +kernel
theorem dX8_farOf_10 : decode cX8_farOf 10 = .ok (.iconst 4, 1) := by decide +kernel
theorem dX8_farOf_11 : decode cX8_farOf 11 = .ok (.if_icmp .ge 7, 3) := by decide +kernel
theorem dX8_farOf_14 : decode cX8_farOf 14 = .ok (.iconst 1, 1) := by decide +kernel
theorem dX8_farOf_15 : decode cX8_farOf 15 = .ok (.goto 24, 3) := by decide +kernel
theorem dX8_farOf_18 : decode cX8_farOf 18 = .ok (.iload_n 0, 1) := by decide +kernel
theorem dX8_farOf_19 : decode cX8_farOf 19 = .ok (.bipush 8, 2) := by decide +kernel
theorem dX8_farOf_21 : decode cX8_farOf 21 = .ok (.if_icmp .ge 7, 3) := by decide +kernel
theorem dX8_farOf_24 : decode cX8_farOf 24 = .ok (.iconst 2, 1) := by decide +kernel
theorem dX8_farOf_25 : decode cX8_farOf 25 = .ok (.goto 14, 3) := by decide +kernel
theorem dX8_farOf_28 : decode cX8_farOf 28 = .ok (.iload_n 0, 1) := by decide +kernel
theorem dX8_farOf_29 : decode cX8_farOf 29 = .ok (.bipush 16, 2) := by decide +kernel
theorem dX8_farOf_31 : decode cX8_farOf 31 = .ok (.if_icmp .ge 7, 3) := by decide +kernel
theorem dX8_farOf_34 : decode cX8_farOf 34 = .ok (.iconst 3, 1) := by decide +kernel
theorem dX8_farOf_35 : decode cX8_farOf 35 = .ok (.goto 4, 3) := by decide +kernel
theorem dX8_farOf_38 : decode cX8_farOf 38 = .ok (.iconst 4, 1) := by decide +kernel
theorem dX8_farOf_39 : decode cX8_farOf 39 = .ok (.ireturn, 1) := by decide +kernel
theorem dX8_copyPrice_0 : decode cX8_copyPrice 0 = .ok (.aload_n 0, 1) := by decide +kernel
theorem dX8_copyPrice_1 : decode cX8_copyPrice 1 = .ok (.getfield 16, 3) := by decide +kernel
theorem dX8_copyPrice_4 : decode cX8_copyPrice 4 = .ok (.iconst 4, 1) := by decide +kernel
theorem dX8_copyPrice_5 : decode cX8_copyPrice 5 = .ok (.iaload, 1) := by decide +kernel
theorem dX8_copyPrice_6 : decode cX8_copyPrice 6 = .ok (.aload_n 0, 1) := by decide +kernel
theorem dX8_copyPrice_7 : decode cX8_copyPrice 7 = .ok (.getfield 16, 3) := by decide +kernel
theorem dX8_copyPrice_10 : decode cX8_copyPrice 10 = .ok (.iconst 5, 1) := by decide +kernel
theorem dX8_copyPrice_11 : decode cX8_copyPrice 11 = .ok (.iload_n 1, 1) := by decide +kernel
theorem dX8_copyPrice_12 : decode cX8_copyPrice 12 = .ok (.invokestatic 57, 3) := by decide +kernel
theorem dX8_copyPrice_15 : decode cX8_copyPrice 15 = .ok (.iadd, 1) := by decide +kernel
theorem dX8_copyPrice_16 : decode cX8_copyPrice 16 = .ok (.iaload, 1) := by decide +kernel
theorem dX8_copyPrice_17 : decode cX8_copyPrice 17 = .ok (.iadd, 1) := by decide +kernel
theorem dX8_copyPrice_18 : decode cX8_copyPrice 18 = .ok (.aload_n 0, 1) := by decide +kernel
theorem dX8_copyPrice_19 : decode cX8_copyPrice 19 = .ok (.getfield 16, 3) := by decide +kernel
theorem dX8_copyPrice_22 : decode cX8_copyPrice 22 = .ok (.bipush 10, 2) := by decide +kernel
theorem dX8_copyPrice_24 : decode cX8_copyPrice 24 = .ok (.iload_n 2, 1) := by decide +kernel
theorem dX8_copyPrice_25 : decode cX8_copyPrice 25 = .ok (.iadd, 1) := by decide +kernel
theorem dX8_copyPrice_26 : decode cX8_copyPrice 26 = .ok (.iconst 2, 1) := by decide +kernel
theorem dX8_copyPrice_27 : decode cX8_copyPrice 27 = .ok (.isub, 1) := by decide +kernel
theorem dX8_copyPrice_28 : decode cX8_copyPrice 28 = .ok (.iaload, 1) := by decide +kernel
theorem dX8_copyPrice_29 : decode cX8_copyPrice 29 = .ok (.iadd, 1) := by decide +kernel
theorem dX8_copyPrice_30 : decode cX8_copyPrice 30 = .ok (.ireturn, 1) := by decide +kernel
theorem dX8_againPrice_0 : decode cX8_againPrice 0 = .ok (.aload_n 0, 1) := by decide +kernel
theorem dX8_againPrice_1 : decode cX8_againPrice 1 = .ok (.getfield 16, 3) := by decide +kernel
theorem dX8_againPrice_4 : decode cX8_againPrice 4 = .ok (.bipush 17, 2) := by decide +kernel
theorem dX8_againPrice_6 : decode cX8_againPrice 6 = .ok (.iaload, 1) := by decide +kernel
theorem dX8_againPrice_7 : decode cX8_againPrice 7 = .ok (.aload_n 0, 1) := by decide +kernel
theorem dX8_againPrice_8 : decode cX8_againPrice 8 = .ok (.getfield 16, 3) := by decide +kernel
theorem dX8_againPrice_11 : decode cX8_againPrice 11 = .ok (.bipush 10, 2) := by decide +kernel
theorem dX8_againPrice_13 : decode cX8_againPrice 13 = .ok (.iload_n 1, 1) := by decide +kernel
theorem dX8_againPrice_14 : decode cX8_againPrice 14 = .ok (.iadd, 1) := by decide +kernel
theorem dX8_againPrice_15 : decode cX8_againPrice 15 = .ok (.iconst 2, 1) := by decide +kernel
theorem dX8_againPrice_16 : decode cX8_againPrice 16 = .ok (.isub, 1) := by decide +kernel
theorem dX8_againPrice_17 : decode cX8_againPrice 17 = .ok (.iaload, 1) := by decide +kernel
theorem dX8_againPrice_18 : decode cX8_againPrice 18 = .ok (.iadd, 1) := by decide +kernel
theorem dX8_againPrice_19 : decode cX8_againPrice 19 = .ok (.ireturn, 1) := by decide +kernel
theorem dX8_copy_0 : decode cX8_copy 0 = .ok (.iconst 0, 1) := by decide +kernel
theorem dX8_copy_1 : decode cX8_copy 1 = .ok (.istore_n 3, 1) := by decide +kernel
theorem dX8_copy_2 : decode cX8_copy 2 = .ok (.iload_n 3, 1) := by decide +kernel
theorem dX8_copy_3 : decode cX8_copy 3 = .ok (.iload_n 2, 1) := by decide +kernel
theorem dX8_copy_4 : decode cX8_copy 4 = .ok (.if_icmp .ge 39, 3) := by decide +kernel
theorem dX8_copy_7 : decode cX8_copy 7 = .ok (.aload_n 0, 1) := by decide +kernel
theorem dX8_copy_8 : decode cX8_copy 8 = .ok (.getfield 19, 3) := by decide +kernel
theorem dX8_copy_11 : decode cX8_copy 11 = .ok (.aload_n 0, 1) := by decide +kernel
theorem dX8_copy_12 : decode cX8_copy 12 = .ok (.getfield 61, 3) := by decide +kernel
theorem dX8_copy_15 : decode cX8_copy 15 = .ok (.aload_n 0, 1) := by decide +kernel
theorem dX8_copy_16 : decode cX8_copy 16 = .ok (.getfield 19, 3) := by decide +kernel
theorem dX8_copy_19 : decode cX8_copy 19 = .ok (.aload_n 0, 1) := by decide +kernel
theorem dX8_copy_20 : decode cX8_copy 20 = .ok (.getfield 61, 3) := by decide +kernel
theorem dX8_copy_23 : decode cX8_copy 23 = .ok (.iload_n 1, 1) := by decide +kernel
theorem dX8_copy_24 : decode cX8_copy 24 = .ok (.isub, 1) := by decide +kernel
theorem dX8_copy_25 : decode cX8_copy 25 = .ok (.iaload, 1) := by decide +kernel
theorem dX8_copy_26 : decode cX8_copy 26 = .ok (.iastore, 1) := by decide +kernel
theorem dX8_copy_27 : decode cX8_copy 27 = .ok (.aload_n 0, 1) := by decide +kernel
theorem dX8_copy_28 : decode cX8_copy 28 = .ok (.dup, 1) := by decide +kernel
theorem dX8_copy_29 : decode cX8_copy 29 = .ok (.getfield 61, 3) := by decide +kernel
theorem dX8_copy_32 : decode cX8_copy 32 = .ok (.iconst 1, 1) := by decide +kernel
theorem dX8_copy_33 : decode cX8_copy 33 = .ok (.iadd, 1) := by decide +kernel
theorem dX8_copy_34 : decode cX8_copy 34 = .ok (.putfield 61, 3) := by decide +kernel
theorem dX8_copy_37 : decode cX8_copy 37 = .ok (.iinc 3 1, 3) := by decide +kernel
theorem dX8_copy_40 : decode cX8_copy 40 = .ok (.goto (-38), 3) := by decide +kernel
theorem dX8_copy_43 : decode cX8_copy 43 = .ok (.return_, 1) := by decide +kernel
theorem dX8_readCode_0 : decode cX8_readCode 0 = .ok (.aload_n 0, 1) := by decide +kernel
theorem dX8_readCode_1 : decode cX8_readCode 1 = .ok (.iconst 0, 1) := by decide +kernel
theorem dX8_readCode_2 : decode cX8_readCode 2 = .ok (.putfield 61, 3) := by decide +kernel
theorem dX8_readCode_5 : decode cX8_readCode 5 = .ok (.aload_n 0, 1) := by decide +kernel
theorem dX8_readCode_6 : decode cX8_readCode 6 = .ok (.iconst 0, 1) := by decide +kernel
theorem dX8_readCode_7 : decode cX8_readCode 7 = .ok (.putfield 64, 3) := by decide +kernel
theorem dX8_readCode_10 : decode cX8_readCode 10 = .ok (.aload_n 0, 1) := by decide +kernel
theorem dX8_readCode_11 : decode cX8_readCode 11 = .ok (.iconst 0, 1) := by decide +kernel
theorem dX8_readCode_12 : decode cX8_readCode 12 = .ok (.putfield 67, 3) := by decide +kernel
theorem dX8_readCode_15 : decode cX8_readCode 15 = .ok (.iconst 0, 1) := by decide +kernel
theorem dX8_readCode_16 : decode cX8_readCode 16 = .ok (.istore_n 1, 1) := by decide +kernel
theorem dX8_readCode_17 : decode cX8_readCode 17 = .ok (.aload_n 0, 1) := by decide +kernel
theorem dX8_readCode_18 : decode cX8_readCode 18 = .ok (.getfield 53, 3) := by decide +kernel
theorem dX8_readCode_21 : decode cX8_readCode 21 = .ok (.ifCond .le 7, 3) := by decide +kernel
theorem dX8_readCode_24 : decode cX8_readCode 24 = .ok (.iconst 1, 1) := by decide +kernel
theorem dX8_readCode_25 : decode cX8_readCode 25 = .ok (.goto 4, 3) := by decide +kernel
theorem dX8_readCode_28 : decode cX8_readCode 28 = .ok (.iconst 0, 1) := by decide +kernel
theorem dX8_readCode_29 : decode cX8_readCode 29 = .ok (.istore_n 2, 1) := by decide +kernel
theorem dX8_readCode_30 : decode cX8_readCode 30 = .ok (.aload_n 0, 1) := by decide +kernel
theorem dX8_readCode_31 : decode cX8_readCode 31 = .ok (.iload_n 2, 1) := by decide +kernel
theorem dX8_readCode_32 : decode cX8_readCode 32 = .ok (.putfield 70, 3) := by decide +kernel
theorem dX8_readCode_35 : decode cX8_readCode 35 = .ok (.iload_n 2, 1) := by decide +kernel
theorem dX8_readCode_36 : decode cX8_readCode 36 = .ok (.ifCond .eq 336, 3) := by decide +kernel
theorem dX8_readCode_39 : decode cX8_readCode 39 = .ok (.aload_n 0, 1) := by decide +kernel
theorem dX8_readCode_40 : decode cX8_readCode 40 = .ok (.getfield 7, 3) := by decide +kernel
theorem dX8_readCode_43 : decode cX8_readCode 43 = .ok (.aload_n 0, 1) := by decide +kernel
theorem dX8_readCode_44 : decode cX8_readCode 44 = .ok (.getfield 67, 3) := by decide +kernel
theorem dX8_readCode_47 : decode cX8_readCode 47 = .ok (.iaload, 1) := by decide +kernel
theorem dX8_readCode_48 : decode cX8_readCode 48 = .ok (.istore_n 3, 1) := by decide +kernel
theorem dX8_readCode_49 : decode cX8_readCode 49 = .ok (.iload_n 3, 1) := by decide +kernel
theorem dX8_readCode_50 : decode cX8_readCode 50 = .ok (.bipush 97, 2) := by decide +kernel
theorem dX8_readCode_52 : decode cX8_readCode 52 = .ok (.bipush 100, 2) := by decide +kernel
theorem dX8_readCode_54 : decode cX8_readCode 54 = .ok (.invokestatic 49, 3) := by decide +kernel
theorem dX8_readCode_57 : decode cX8_readCode 57 = .ok (.istore 4, 2) := by decide +kernel
theorem dX8_readCode_59 : decode cX8_readCode 59 = .ok (.iload_n 3, 1) := by decide +kernel
theorem dX8_readCode_60 : decode cX8_readCode 60 = .ok (.bipush 61, 2) := by decide +kernel
theorem dX8_readCode_62 : decode cX8_readCode 62 = .ok (.if_icmp .ne 7, 3) := by decide +kernel
theorem dX8_readCode_65 : decode cX8_readCode 65 = .ok (.iconst 1, 1) := by decide +kernel
theorem dX8_readCode_66 : decode cX8_readCode 66 = .ok (.goto 4, 3) := by decide +kernel
theorem dX8_readCode_69 : decode cX8_readCode 69 = .ok (.iconst 0, 1) := by decide +kernel
theorem dX8_readCode_70 : decode cX8_readCode 70 = .ok (.istore 5, 2) := by decide +kernel
theorem dX8_readCode_72 : decode cX8_readCode 72 = .ok (.iload 5, 2) := by decide +kernel
theorem dX8_readCode_74 : decode cX8_readCode 74 = .ok (.ifCond .eq 7, 3) := by decide +kernel
theorem dX8_readCode_77 : decode cX8_readCode 77 = .ok (.iload_n 1, 1) := by decide +kernel
theorem dX8_readCode_78 : decode cX8_readCode 78 = .ok (.goto 24, 3) := by decide +kernel
theorem dX8_readCode_81 : decode cX8_readCode 81 = .ok (.iload_n 3, 1) := by decide +kernel
theorem dX8_readCode_82 : decode cX8_readCode 82 = .ok (.bipush 65, 2) := by decide +kernel
theorem dX8_readCode_84 : decode cX8_readCode 84 = .ok (.bipush 88, 2) := by decide +kernel
theorem dX8_readCode_86 : decode cX8_readCode 86 = .ok (.invokestatic 49, 3) := by decide +kernel
theorem dX8_readCode_89 : decode cX8_readCode 89 = .ok (.ifCond .eq 12, 3) := by decide +kernel
theorem dX8_readCode_92 : decode cX8_readCode 92 = .ok (.iload_n 3, 1) := by decide +kernel
theorem dX8_readCode_93 : decode cX8_readCode 93 = .ok (.bipush 65, 2) := by decide +kernel
theorem dX8_readCode_95 : decode cX8_readCode 95 = .ok (.isub, 1) := by decide +kernel
theorem dX8_readCode_96 : decode cX8_readCode 96 = .ok (.iconst 1, 1) := by decide +kernel
theorem dX8_readCode_97 : decode cX8_readCode 97 = .ok (.iadd, 1) := by decide +kernel
theorem dX8_readCode_98 : decode cX8_readCode 98 = .ok (.goto 4, 3) := by decide +kernel
theorem dX8_readCode_101 : decode cX8_readCode 101 = .ok (.iconst 0, 1) := by decide +kernel
theorem dX8_readCode_102 : decode cX8_readCode 102 = .ok (.istore 6, 2) := by decide +kernel
theorem dX8_readCode_104 : decode cX8_readCode 104 = .ok (.iload 4, 2) := by decide +kernel
theorem dX8_readCode_106 : decode cX8_readCode 106 = .ok (.ifCond .eq 20, 3) := by decide +kernel
theorem dX8_readCode_109 : decode cX8_readCode 109 = .ok (.aload_n 0, 1) := by decide +kernel
theorem dX8_readCode_110 : decode cX8_readCode 110 = .ok (.getfield 61, 3) := by decide +kernel
theorem dX8_readCode_113 : decode cX8_readCode 113 = .ok (.bipush 24, 2) := by decide +kernel
theorem dX8_readCode_115 : decode cX8_readCode 115 = .ok (.if_icmp .ge 7, 3) := by decide +kernel
theorem dX8_readCode_118 : decode cX8_readCode 118 = .ok (.iconst 1, 1) := by decide +kernel
theorem dX8_readCode_119 : decode cX8_readCode 119 = .ok (.goto 26, 3) := by decide +kernel
theorem dX8_readCode_122 : decode cX8_readCode 122 = .ok (.iconst 0, 1) := by decide +kernel
theorem dX8_readCode_123 : decode cX8_readCode 123 = .ok (.goto 22, 3) := by decide +kernel
theorem dX8_readCode_126 : decode cX8_readCode 126 = .ok (.iload 6, 2) := by decide +kernel
theorem dX8_readCode_128 : decode cX8_readCode 128 = .ok (.ifCond .le 16, 3) := by decide +kernel
theorem dX8_readCode_131 : decode cX8_readCode 131 = .ok (.iload 6, 2) := by decide +kernel
theorem dX8_readCode_133 : decode cX8_readCode 133 = .ok (.aload_n 0, 1) := by decide +kernel
theorem dX8_readCode_134 : decode cX8_readCode 134 = .ok (.getfield 61, 3) := by decide +kernel
theorem dX8_readCode_137 : decode cX8_readCode 137 = .ok (.if_icmp .gt 7, 3) := by decide +kernel
theorem dX8_readCode_140 : decode cX8_readCode 140 = .ok (.iconst 1, 1) := by decide +kernel
theorem dX8_readCode_141 : decode cX8_readCode 141 = .ok (.goto 4, 3) := by decide +kernel
theorem dX8_readCode_144 : decode cX8_readCode 144 = .ok (.iconst 0, 1) := by decide +kernel
theorem dX8_readCode_145 : decode cX8_readCode 145 = .ok (.istore 7, 2) := by decide +kernel
theorem dX8_readCode_147 : decode cX8_readCode 147 = .ok (.aload_n 0, 1) := by decide +kernel
theorem dX8_readCode_148 : decode cX8_readCode 148 = .ok (.dup, 1) := by decide +kernel
theorem dX8_readCode_149 : decode cX8_readCode 149 = .ok (.getfield 67, 3) := by decide +kernel
theorem dX8_readCode_152 : decode cX8_readCode 152 = .ok (.iload 7, 2) := by decide +kernel
theorem dX8_readCode_154 : decode cX8_readCode 154 = .ok (.ifCond .eq 7, 3) := by decide +kernel
theorem dX8_readCode_157 : decode cX8_readCode 157 = .ok (.iconst 1, 1) := by decide +kernel
theorem dX8_readCode_158 : decode cX8_readCode 158 = .ok (.goto 4, 3) := by decide +kernel
theorem dX8_readCode_161 : decode cX8_readCode 161 = .ok (.iconst 0, 1) := by decide +kernel
theorem dX8_readCode_162 : decode cX8_readCode 162 = .ok (.iadd, 1) := by decide +kernel
theorem dX8_readCode_163 : decode cX8_readCode 163 = .ok (.putfield 67, 3) := by decide +kernel
theorem dX8_readCode_166 : decode cX8_readCode 166 = .ok (.iload 7, 2) := by decide +kernel
theorem dX8_readCode_168 : decode cX8_readCode 168 = .ok (.ifCond .eq 52, 3) := by decide +kernel
theorem dX8_readCode_171 : decode cX8_readCode 171 = .ok (.iload 4, 2) := by decide +kernel
theorem dX8_readCode_173 : decode cX8_readCode 173 = .ok (.ifCond .eq 47, 3) := by decide +kernel
theorem dX8_readCode_176 : decode cX8_readCode 176 = .ok (.aload_n 0, 1) := by decide +kernel
theorem dX8_readCode_177 : decode cX8_readCode 177 = .ok (.getfield 19, 3) := by decide +kernel
theorem dX8_readCode_180 : decode cX8_readCode 180 = .ok (.aload_n 0, 1) := by decide +kernel
theorem dX8_readCode_181 : decode cX8_readCode 181 = .ok (.getfield 61, 3) := by decide +kernel
theorem dX8_readCode_184 : decode cX8_readCode 184 = .ok (.iload_n 3, 1) := by decide +kernel
theorem dX8_readCode_185 : decode cX8_readCode 185 = .ok (.bipush 97, 2) := by decide +kernel
theorem dX8_readCode_187 : decode cX8_readCode 187 = .ok (.isub, 1) := by decide +kernel
theorem dX8_readCode_188 : decode cX8_readCode 188 = .ok (.iastore, 1) := by decide +kernel
theorem dX8_readCode_189 : decode cX8_readCode 189 = .ok (.aload_n 0, 1) := by decide +kernel
theorem dX8_readCode_190 : decode cX8_readCode 190 = .ok (.dup, 1) := by decide +kernel
theorem dX8_readCode_191 : decode cX8_readCode 191 = .ok (.getfield 61, 3) := by decide +kernel
theorem dX8_readCode_194 : decode cX8_readCode 194 = .ok (.iconst 1, 1) := by decide +kernel
theorem dX8_readCode_195 : decode cX8_readCode 195 = .ok (.iadd, 1) := by decide +kernel
theorem dX8_readCode_196 : decode cX8_readCode 196 = .ok (.putfield 61, 3) := by decide +kernel
theorem dX8_readCode_199 : decode cX8_readCode 199 = .ok (.aload_n 0, 1) := by decide +kernel
theorem dX8_readCode_200 : decode cX8_readCode 200 = .ok (.dup, 1) := by decide +kernel
theorem dX8_readCode_201 : decode cX8_readCode 201 = .ok (.getfield 64, 3) := by decide +kernel
theorem dX8_readCode_204 : decode cX8_readCode 204 = .ok (.aload_n 0, 1) := by decide +kernel
theorem dX8_readCode_205 : decode cX8_readCode 205 = .ok (.getfield 16, 3) := by decide +kernel
theorem dX8_readCode_208 : decode cX8_readCode 208 = .ok (.iload_n 3, 1) := by decide +kernel
theorem dX8_readCode_209 : decode cX8_readCode 209 = .ok (.bipush 97, 2) := by decide +kernel
theorem dX8_readCode_211 : decode cX8_readCode 211 = .ok (.isub, 1) := by decide +kernel
theorem dX8_readCode_212 : decode cX8_readCode 212 = .ok (.iaload, 1) := by decide +kernel
theorem dX8_readCode_213 : decode cX8_readCode 213 = .ok (.iadd, 1) := by decide +kernel
theorem dX8_readCode_214 : decode cX8_readCode 214 = .ok (.putfield 64, 3) := by decide +kernel
theorem dX8_readCode_217 : decode cX8_readCode 217 = .ok (.goto 124, 3) := by decide +kernel
theorem dX8_readCode_220 : decode cX8_readCode 220 = .ok (.iload 7, 2) := by decide +kernel
theorem dX8_readCode_222 : decode cX8_readCode 222 = .ok (.ifCond .eq 119, 3) := by decide +kernel
theorem dX8_readCode_225 : decode cX8_readCode 225 = .ok (.aload_n 0, 1) := by decide +kernel
theorem dX8_readCode_226 : decode cX8_readCode 226 = .ok (.getfield 67, 3) := by decide +kernel
theorem dX8_readCode_229 : decode cX8_readCode 229 = .ok (.aload_n 0, 1) := by decide +kernel
theorem dX8_readCode_230 : decode cX8_readCode 230 = .ok (.getfield 53, 3) := by decide +kernel
theorem dX8_readCode_233 : decode cX8_readCode 233 = .ok (.if_icmp .ge 18, 3) := by decide +kernel
theorem dX8_readCode_236 : decode cX8_readCode 236 = .ok (.aload_n 0, 1) := by decide +kernel
theorem dX8_readCode_237 : decode cX8_readCode 237 = .ok (.getfield 7, 3) := by decide +kernel
theorem dX8_readCode_240 : decode cX8_readCode 240 = .ok (.aload_n 0, 1) := by decide +kernel
theorem dX8_readCode_241 : decode cX8_readCode 241 = .ok (.getfield 67, 3) := by decide +kernel
theorem dX8_readCode_244 : decode cX8_readCode 244 = .ok (.iaload, 1) := by decide +kernel
theorem dX8_readCode_245 : decode cX8_readCode 245 = .ok (.bipush 48, 2) := by decide +kernel
theorem dX8_readCode_247 : decode cX8_readCode 247 = .ok (.isub, 1) := by decide +kernel
theorem dX8_readCode_248 : decode cX8_readCode 248 = .ok (.goto 4, 3) := by decide +kernel
theorem dX8_readCode_251 : decode cX8_readCode 251 = .ok (.iconst 0, 1) := by decide +kernel
theorem dX8_readCode_252 : decode cX8_readCode 252 = .ok (.istore 8, 2) := by decide +kernel
theorem dX8_readCode_254 : decode cX8_readCode 254 = .ok (.iload 8, 2) := by decide +kernel
theorem dX8_readCode_256 : decode cX8_readCode 256 = .ok (.iconst 2, 1) := by decide +kernel
theorem dX8_readCode_257 : decode cX8_readCode 257 = .ok (.bipush 8, 2) := by decide +kernel
theorem dX8_readCode_259 : decode cX8_readCode 259 = .ok (.invokestatic 49, 3) := by decide +kernel
theorem dX8_readCode_262 : decode cX8_readCode 262 = .ok (.ifCond .eq 19, 3) := by decide +kernel
theorem dX8_readCode_265 : decode cX8_readCode 265 = .ok (.aload_n 0, 1) := by decide +kernel
theorem dX8_readCode_266 : decode cX8_readCode 266 = .ok (.getfield 61, 3) := by decide +kernel
theorem dX8_readCode_269 : decode cX8_readCode 269 = .ok (.iload 8, 2) := by decide +kernel
theorem dX8_readCode_271 : decode cX8_readCode 271 = .ok (.iadd, 1) := by decide +kernel
theorem dX8_readCode_272 : decode cX8_readCode 272 = .ok (.bipush 24, 2) := by decide +kernel
theorem dX8_readCode_274 : decode cX8_readCode 274 = .ok (.if_icmp .gt 7, 3) := by decide +kernel
theorem dX8_readCode_277 : decode cX8_readCode 277 = .ok (.iconst 1, 1) := by decide +kernel
theorem dX8_readCode_278 : decode cX8_readCode 278 = .ok (.goto 4, 3) := by decide +kernel
theorem dX8_readCode_281 : decode cX8_readCode 281 = .ok (.iconst 0, 1) := by decide +kernel
theorem dX8_readCode_282 : decode cX8_readCode 282 = .ok (.istore 7, 2) := by decide +kernel
theorem dX8_readCode_284 : decode cX8_readCode 284 = .ok (.iload 7, 2) := by decide +kernel
theorem dX8_readCode_286 : decode cX8_readCode 286 = .ok (.ifCond .eq 55, 3) := by decide +kernel
theorem dX8_readCode_289 : decode cX8_readCode 289 = .ok (.aload_n 0, 1) := by decide +kernel
theorem dX8_readCode_290 : decode cX8_readCode 290 = .ok (.iload 6, 2) := by decide +kernel
theorem dX8_readCode_292 : decode cX8_readCode 292 = .ok (.iload 8, 2) := by decide +kernel
theorem dX8_readCode_294 : decode cX8_readCode 294 = .ok (.invokevirtual 74, 3) := by decide +kernel
theorem dX8_readCode_297 : decode cX8_readCode 297 = .ok (.aload_n 0, 1) := by decide +kernel
theorem dX8_readCode_298 : decode cX8_readCode 298 = .ok (.dup, 1) := by decide +kernel
theorem dX8_readCode_299 : decode cX8_readCode 299 = .ok (.getfield 64, 3) := by decide +kernel
theorem dX8_readCode_302 : decode cX8_readCode 302 = .ok (.iload 5, 2) := by decide +kernel
theorem dX8_readCode_304 : decode cX8_readCode 304 = .ok (.ifCond .eq 12, 3) := by decide +kernel
theorem dX8_readCode_307 : decode cX8_readCode 307 = .ok (.aload_n 0, 1) := by decide +kernel
theorem dX8_readCode_308 : decode cX8_readCode 308 = .ok (.iload 8, 2) := by decide +kernel
theorem dX8_readCode_310 : decode cX8_readCode 310 = .ok (.invokevirtual 78, 3) := by decide +kernel
theorem dX8_readCode_313 : decode cX8_readCode 313 = .ok (.goto 11, 3) := by decide +kernel
theorem dX8_readCode_316 : decode cX8_readCode 316 = .ok (.aload_n 0, 1) := by decide +kernel
theorem dX8_readCode_317 : decode cX8_readCode 317 = .ok (.iload 6, 2) := by decide +kernel
theorem dX8_readCode_319 : decode cX8_readCode 319 = .ok (.iload 8, 2) := by decide +kernel
theorem dX8_readCode_321 : decode cX8_readCode 321 = .ok (.invokevirtual 81, 3) := by decide +kernel
theorem dX8_readCode_324 : decode cX8_readCode 324 = .ok (.iadd, 1) := by decide +kernel
theorem dX8_readCode_325 : decode cX8_readCode 325 = .ok (.putfield 64, 3) := by decide +kernel
theorem dX8_readCode_328 : decode cX8_readCode 328 = .ok (.iload 6, 2) := by decide +kernel
theorem dX8_readCode_330 : decode cX8_readCode 330 = .ok (.istore_n 1, 1) := by decide +kernel
theorem dX8_readCode_331 : decode cX8_readCode 331 = .ok (.aload_n 0, 1) := by decide +kernel
theorem dX8_readCode_332 : decode cX8_readCode 332 = .ok (.dup, 1) := by decide +kernel
theorem dX8_readCode_333 : decode cX8_readCode 333 = .ok (.getfield 67, 3) := by decide +kernel
theorem dX8_readCode_336 : decode cX8_readCode 336 = .ok (.iconst 1, 1) := by decide +kernel
theorem dX8_readCode_337 : decode cX8_readCode 337 = .ok (.iadd, 1) := by decide +kernel
theorem dX8_readCode_338 : decode cX8_readCode 338 = .ok (.putfield 67, 3) := by decide +kernel
theorem dX8_readCode_341 : decode cX8_readCode 341 = .ok (.aload_n 0, 1) := by decide +kernel
theorem dX8_readCode_342 : decode cX8_readCode 342 = .ok (.iload 7, 2) := by decide +kernel
theorem dX8_readCode_344 : decode cX8_readCode 344 = .ok (.putfield 70, 3) := by decide +kernel
theorem dX8_readCode_347 : decode cX8_readCode 347 = .ok (.iload 7, 2) := by decide +kernel
theorem dX8_readCode_349 : decode cX8_readCode 349 = .ok (.ifCond .eq 18, 3) := by decide +kernel
theorem dX8_readCode_352 : decode cX8_readCode 352 = .ok (.aload_n 0, 1) := by decide +kernel
theorem dX8_readCode_353 : decode cX8_readCode 353 = .ok (.getfield 67, 3) := by decide +kernel
theorem dX8_readCode_356 : decode cX8_readCode 356 = .ok (.aload_n 0, 1) := by decide +kernel
theorem dX8_readCode_357 : decode cX8_readCode 357 = .ok (.getfield 53, 3) := by decide +kernel
theorem dX8_readCode_360 : decode cX8_readCode 360 = .ok (.if_icmp .ge 7, 3) := by decide +kernel
theorem dX8_readCode_363 : decode cX8_readCode 363 = .ok (.iconst 1, 1) := by decide +kernel
theorem dX8_readCode_364 : decode cX8_readCode 364 = .ok (.goto 4, 3) := by decide +kernel
theorem dX8_readCode_367 : decode cX8_readCode 367 = .ok (.iconst 0, 1) := by decide +kernel
theorem dX8_readCode_368 : decode cX8_readCode 368 = .ok (.istore_n 2, 1) := by decide +kernel
theorem dX8_readCode_369 : decode cX8_readCode 369 = .ok (.goto (-334), 3) := by decide +kernel
theorem dX8_readCode_372 : decode cX8_readCode 372 = .ok (.return_, 1) := by decide +kernel
theorem dX8_fault_0 : decode cX8_fault 0 = .ok (.iload_n 1, 1) := by decide +kernel
theorem dX8_fault_1 : decode cX8_fault 1 = .ok (.ifCond .ne 8, 3) := by decide +kernel
theorem dX8_fault_4 : decode cX8_fault 4 = .ok (.aload_n 0, 1) := by decide +kernel
theorem dX8_fault_5 : decode cX8_fault 5 = .ok (.invokevirtual 85, 3) := by decide +kernel
theorem dX8_fault_8 : decode cX8_fault 8 = .ok (.ireturn, 1) := by decide +kernel
theorem dX8_fault_9 : decode cX8_fault 9 = .ok (.aload_n 0, 1) := by decide +kernel
theorem dX8_fault_10 : decode cX8_fault 10 = .ok (.invokevirtual 89, 3) := by decide +kernel
theorem dX8_fault_13 : decode cX8_fault 13 = .ok (.aload_n 0, 1) := by decide +kernel
theorem dX8_fault_14 : decode cX8_fault 14 = .ok (.getfield 67, 3) := by decide +kernel
theorem dX8_fault_17 : decode cX8_fault 17 = .ok (.ireturn, 1) := by decide +kernel
theorem dX8_text_0 : decode cX8_text 0 = .ok (.aload_n 0, 1) := by decide +kernel
theorem dX8_text_1 : decode cX8_text 1 = .ok (.getfield 53, 3) := by decide +kernel
theorem dX8_text_4 : decode cX8_text 4 = .ok (.ifCond .eq 14, 3) := by decide +kernel
theorem dX8_text_7 : decode cX8_text 7 = .ok (.aload_n 0, 1) := by decide +kernel
theorem dX8_text_8 : decode cX8_text 8 = .ok (.invokevirtual 85, 3) := by decide +kernel
theorem dX8_text_11 : decode cX8_text 11 = .ok (.aload_n 0, 1) := by decide +kernel
theorem dX8_text_12 : decode cX8_text 12 = .ok (.getfield 53, 3) := by decide +kernel
theorem dX8_text_15 : decode cX8_text 15 = .ok (.if_icmp .ge 7, 3) := by decide +kernel
theorem dX8_text_18 : decode cX8_text 18 = .ok (.sipush (-1003), 3) := by decide +kernel
theorem dX8_text_21 : decode cX8_text 21 = .ok (.ireturn, 1) := by decide +kernel
theorem dX8_text_22 : decode cX8_text 22 = .ok (.aload_n 0, 1) := by decide +kernel
theorem dX8_text_23 : decode cX8_text 23 = .ok (.aload_n 0, 1) := by decide +kernel
theorem dX8_text_24 : decode cX8_text 24 = .ok (.getfield 53, 3) := by decide +kernel
theorem dX8_text_27 : decode cX8_text 27 = .ok (.putfield 92, 3) := by decide +kernel
theorem dX8_text_30 : decode cX8_text 30 = .ok (.iconst 0, 1) := by decide +kernel
theorem dX8_text_31 : decode cX8_text 31 = .ok (.istore_n 1, 1) := by decide +kernel
theorem dX8_text_32 : decode cX8_text 32 = .ok (.iload_n 1, 1) := by decide +kernel
theorem dX8_text_33 : decode cX8_text 33 = .ok (.aload_n 0, 1) := by decide +kernel
theorem dX8_text_34 : decode cX8_text 34 = .ok (.getfield 92, 3) := by decide +kernel
theorem dX8_text_37 : decode cX8_text 37 = .ok (.if_icmp .ge 24, 3) := by decide +kernel
theorem dX8_text_40 : decode cX8_text 40 = .ok (.aload_n 0, 1) := by decide +kernel
theorem dX8_text_41 : decode cX8_text 41 = .ok (.getfield 13, 3) := by decide +kernel
theorem dX8_text_44 : decode cX8_text 44 = .ok (.iload_n 1, 1) := by decide +kernel
theorem dX8_text_45 : decode cX8_text 45 = .ok (.aload_n 0, 1) := by decide +kernel
theorem dX8_text_46 : decode cX8_text 46 = .ok (.getfield 7, 3) := by decide +kernel
theorem dX8_text_49 : decode cX8_text 49 = .ok (.iload_n 1, 1) := by decide +kernel
theorem dX8_text_50 : decode cX8_text 50 = .ok (.iaload, 1) := by decide +kernel
theorem dX8_text_51 : decode cX8_text 51 = .ok (.bipush 97, 2) := by decide +kernel
theorem dX8_text_53 : decode cX8_text 53 = .ok (.isub, 1) := by decide +kernel
theorem dX8_text_54 : decode cX8_text 54 = .ok (.iastore, 1) := by decide +kernel
theorem dX8_text_55 : decode cX8_text 55 = .ok (.iinc 1 1, 3) := by decide +kernel
theorem dX8_text_58 : decode cX8_text 58 = .ok (.goto (-26), 3) := by decide +kernel
theorem dX8_text_61 : decode cX8_text 61 = .ok (.aload_n 0, 1) := by decide +kernel
theorem dX8_text_62 : decode cX8_text 62 = .ok (.iconst 0, 1) := by decide +kernel
theorem dX8_text_63 : decode cX8_text 63 = .ok (.putfield 53, 3) := by decide +kernel
theorem dX8_text_66 : decode cX8_text 66 = .ok (.aload_n 0, 1) := by decide +kernel
theorem dX8_text_67 : decode cX8_text 67 = .ok (.dup, 1) := by decide +kernel
theorem dX8_text_68 : decode cX8_text 68 = .ok (.getfield 95, 3) := by decide +kernel
theorem dX8_text_71 : decode cX8_text 71 = .ok (.iconst 1, 1) := by decide +kernel
theorem dX8_text_72 : decode cX8_text 72 = .ok (.iadd, 1) := by decide +kernel
theorem dX8_text_73 : decode cX8_text 73 = .ok (.putfield 95, 3) := by decide +kernel
theorem dX8_text_76 : decode cX8_text 76 = .ok (.aload_n 0, 1) := by decide +kernel
theorem dX8_text_77 : decode cX8_text 77 = .ok (.getfield 92, 3) := by decide +kernel
theorem dX8_text_80 : decode cX8_text 80 = .ok (.ireturn, 1) := by decide +kernel
theorem dX8_decode_0 : decode cX8_decode 0 = .ok (.aload_n 0, 1) := by decide +kernel
theorem dX8_decode_1 : decode cX8_decode 1 = .ok (.invokevirtual 89, 3) := by decide +kernel
theorem dX8_decode_4 : decode cX8_decode 4 = .ok (.aload_n 0, 1) := by decide +kernel
theorem dX8_decode_5 : decode cX8_decode 5 = .ok (.getfield 70, 3) := by decide +kernel
theorem dX8_decode_8 : decode cX8_decode 8 = .ok (.ifCond .ne 7, 3) := by decide +kernel
theorem dX8_decode_11 : decode cX8_decode 11 = .ok (.sipush (-1003), 3) := by decide +kernel
theorem dX8_decode_14 : decode cX8_decode 14 = .ok (.ireturn, 1) := by decide +kernel
theorem dX8_decode_15 : decode cX8_decode 15 = .ok (.aload_n 0, 1) := by decide +kernel
theorem dX8_decode_16 : decode cX8_decode 16 = .ok (.aload_n 0, 1) := by decide +kernel
theorem dX8_decode_17 : decode cX8_decode 17 = .ok (.getfield 61, 3) := by decide +kernel
theorem dX8_decode_20 : decode cX8_decode 20 = .ok (.putfield 92, 3) := by decide +kernel
theorem dX8_decode_23 : decode cX8_decode 23 = .ok (.iconst 0, 1) := by decide +kernel
theorem dX8_decode_24 : decode cX8_decode 24 = .ok (.istore_n 1, 1) := by decide +kernel
theorem dX8_decode_25 : decode cX8_decode 25 = .ok (.iload_n 1, 1) := by decide +kernel
theorem dX8_decode_26 : decode cX8_decode 26 = .ok (.aload_n 0, 1) := by decide +kernel
theorem dX8_decode_27 : decode cX8_decode 27 = .ok (.getfield 92, 3) := by decide +kernel
theorem dX8_decode_30 : decode cX8_decode 30 = .ok (.if_icmp .ge 21, 3) := by decide +kernel
theorem dX8_decode_33 : decode cX8_decode 33 = .ok (.aload_n 0, 1) := by decide +kernel
theorem dX8_decode_34 : decode cX8_decode 34 = .ok (.getfield 13, 3) := by decide +kernel
theorem dX8_decode_37 : decode cX8_decode 37 = .ok (.iload_n 1, 1) := by decide +kernel
theorem dX8_decode_38 : decode cX8_decode 38 = .ok (.aload_n 0, 1) := by decide +kernel
theorem dX8_decode_39 : decode cX8_decode 39 = .ok (.getfield 19, 3) := by decide +kernel
theorem dX8_decode_42 : decode cX8_decode 42 = .ok (.iload_n 1, 1) := by decide +kernel
theorem dX8_decode_43 : decode cX8_decode 43 = .ok (.iaload, 1) := by decide +kernel
theorem dX8_decode_44 : decode cX8_decode 44 = .ok (.iastore, 1) := by decide +kernel
theorem dX8_decode_45 : decode cX8_decode 45 = .ok (.iinc 1 1, 3) := by decide +kernel
theorem dX8_decode_48 : decode cX8_decode 48 = .ok (.goto (-23), 3) := by decide +kernel
theorem dX8_decode_51 : decode cX8_decode 51 = .ok (.aload_n 0, 1) := by decide +kernel
theorem dX8_decode_52 : decode cX8_decode 52 = .ok (.iconst 0, 1) := by decide +kernel
theorem dX8_decode_53 : decode cX8_decode 53 = .ok (.putfield 53, 3) := by decide +kernel
theorem dX8_decode_56 : decode cX8_decode 56 = .ok (.aload_n 0, 1) := by decide +kernel
theorem dX8_decode_57 : decode cX8_decode 57 = .ok (.dup, 1) := by decide +kernel
theorem dX8_decode_58 : decode cX8_decode 58 = .ok (.getfield 98, 3) := by decide +kernel
theorem dX8_decode_61 : decode cX8_decode 61 = .ok (.iconst 1, 1) := by decide +kernel
theorem dX8_decode_62 : decode cX8_decode 62 = .ok (.iadd, 1) := by decide +kernel
theorem dX8_decode_63 : decode cX8_decode 63 = .ok (.putfield 98, 3) := by decide +kernel
theorem dX8_decode_66 : decode cX8_decode 66 = .ok (.aload_n 0, 1) := by decide +kernel
theorem dX8_decode_67 : decode cX8_decode 67 = .ok (.getfield 92, 3) := by decide +kernel
theorem dX8_decode_70 : decode cX8_decode 70 = .ok (.ireturn, 1) := by decide +kernel
theorem dX8_priced_0 : decode cX8_priced 0 = .ok (.aload_n 0, 1) := by decide +kernel
theorem dX8_priced_1 : decode cX8_priced 1 = .ok (.invokevirtual 89, 3) := by decide +kernel
theorem dX8_priced_4 : decode cX8_priced 4 = .ok (.aload_n 0, 1) := by decide +kernel
theorem dX8_priced_5 : decode cX8_priced 5 = .ok (.getfield 70, 3) := by decide +kernel
theorem dX8_priced_8 : decode cX8_priced 8 = .ok (.ifCond .eq 10, 3) := by decide +kernel
theorem dX8_priced_11 : decode cX8_priced 11 = .ok (.aload_n 0, 1) := by decide +kernel
theorem dX8_priced_12 : decode cX8_priced 12 = .ok (.getfield 64, 3) := by decide +kernel
theorem dX8_priced_15 : decode cX8_priced 15 = .ok (.goto 6, 3) := by decide +kernel
theorem dX8_priced_18 : decode cX8_priced 18 = .ok (.sipush (-1003), 3) := by decide +kernel
theorem dX8_priced_21 : decode cX8_priced 21 = .ok (.ireturn, 1) := by decide +kernel
theorem dX8_isPrice_0 : decode cX8_isPrice 0 = .ok (.iload_n 0, 1) := by decide +kernel
theorem dX8_isPrice_1 : decode cX8_isPrice 1 = .ok (.iconst 0, 1) := by decide +kernel
theorem dX8_isPrice_2 : decode cX8_isPrice 2 = .ok (.bipush 17, 2) := by decide +kernel
theorem dX8_isPrice_4 : decode cX8_isPrice 4 = .ok (.invokestatic 49, 3) := by decide +kernel
theorem dX8_isPrice_7 : decode cX8_isPrice 7 = .ok (.ireturn, 1) := by decide +kernel
theorem dX8_price_0 : decode cX8_price 0 = .ok (.iload_n 1, 1) := by decide +kernel
theorem dX8_price_1 : decode cX8_price 1 = .ok (.invokestatic 101, 3) := by decide +kernel
theorem dX8_price_4 : decode cX8_price 4 = .ok (.ifCond .ne 7, 3) := by decide +kernel
theorem dX8_price_7 : decode cX8_price 7 = .ok (.sipush (-1001), 3) := by decide +kernel
theorem dX8_price_10 : decode cX8_price 10 = .ok (.ireturn, 1) := by decide +kernel
theorem dX8_price_11 : decode cX8_price 11 = .ok (.iload_n 2, 1) := by decide +kernel
theorem dX8_price_12 : decode cX8_price 12 = .ok (.iconst 1, 1) := by decide +kernel
theorem dX8_price_13 : decode cX8_price 13 = .ok (.bipush 30, 2) := by decide +kernel
theorem dX8_price_15 : decode cX8_price 15 = .ok (.invokestatic 49, 3) := by decide +kernel
theorem dX8_price_18 : decode cX8_price 18 = .ok (.ifCond .ne 7, 3) := by decide +kernel
theorem dX8_price_21 : decode cX8_price 21 = .ok (.sipush (-1002), 3) := by decide +kernel
theorem dX8_price_24 : decode cX8_price 24 = .ok (.ireturn, 1) := by decide +kernel
theorem dX8_price_25 : decode cX8_price 25 = .ok (.aload_n 0, 1) := by decide +kernel
theorem dX8_price_26 : decode cX8_price 26 = .ok (.getfield 16, 3) := by decide +kernel
theorem dX8_price_29 : decode cX8_price 29 = .ok (.iload_n 1, 1) := by decide +kernel
theorem dX8_price_30 : decode cX8_price 30 = .ok (.iaload, 1) := by decide +kernel
theorem dX8_price_31 : decode cX8_price 31 = .ok (.istore_n 3, 1) := by decide +kernel
theorem dX8_price_32 : decode cX8_price 32 = .ok (.aload_n 0, 1) := by decide +kernel
theorem dX8_price_33 : decode cX8_price 33 = .ok (.getfield 16, 3) := by decide +kernel
theorem dX8_price_36 : decode cX8_price 36 = .ok (.iload_n 1, 1) := by decide +kernel
theorem dX8_price_37 : decode cX8_price 37 = .ok (.iload_n 2, 1) := by decide +kernel
theorem dX8_price_38 : decode cX8_price 38 = .ok (.iastore, 1) := by decide +kernel
theorem dX8_price_39 : decode cX8_price 39 = .ok (.iload_n 3, 1) := by decide +kernel
theorem dX8_price_40 : decode cX8_price 40 = .ok (.ireturn, 1) := by decide +kernel
theorem dX8_priceOf_0 : decode cX8_priceOf 0 = .ok (.iload_n 1, 1) := by decide +kernel
theorem dX8_priceOf_1 : decode cX8_priceOf 1 = .ok (.invokestatic 101, 3) := by decide +kernel
theorem dX8_priceOf_4 : decode cX8_priceOf 4 = .ok (.ifCond .eq 12, 3) := by decide +kernel
theorem dX8_priceOf_7 : decode cX8_priceOf 7 = .ok (.aload_n 0, 1) := by decide +kernel
theorem dX8_priceOf_8 : decode cX8_priceOf 8 = .ok (.getfield 16, 3) := by decide +kernel
theorem dX8_priceOf_11 : decode cX8_priceOf 11 = .ok (.iload_n 1, 1) := by decide +kernel
theorem dX8_priceOf_12 : decode cX8_priceOf 12 = .ok (.iaload, 1) := by decide +kernel
theorem dX8_priceOf_13 : decode cX8_priceOf 13 = .ok (.goto 6, 3) := by decide +kernel
theorem dX8_priceOf_16 : decode cX8_priceOf 16 = .ok (.sipush (-1001), 3) := by decide +kernel
theorem dX8_priceOf_19 : decode cX8_priceOf 19 = .ok (.ireturn, 1) := by decide +kernel
theorem dX8_likeness_0 : decode cX8_likeness 0 = .ok (.iconst 0, 1) := by decide +kernel
theorem dX8_likeness_1 : decode cX8_likeness 1 = .ok (.istore 4, 2) := by decide +kernel
theorem dX8_likeness_3 : decode cX8_likeness 3 = .ok (.iload 4, 2) := by decide +kernel
theorem dX8_likeness_5 : decode cX8_likeness 5 = .ok (.bipush 8, 2) := by decide +kernel
theorem dX8_likeness_7 : decode cX8_likeness 7 = .ok (.if_icmp .ge 40, 3) := by decide +kernel
theorem dX8_likeness_10 : decode cX8_likeness 10 = .ok (.iload_n 1, 1) := by decide +kernel
theorem dX8_likeness_11 : decode cX8_likeness 11 = .ok (.iload 4, 2) := by decide +kernel
theorem dX8_likeness_13 : decode cX8_likeness 13 = .ok (.iadd, 1) := by decide +kernel
theorem dX8_likeness_14 : decode cX8_likeness 14 = .ok (.iload_n 3, 1) := by decide +kernel
theorem dX8_likeness_15 : decode cX8_likeness 15 = .ok (.if_icmp .ge 32, 3) := by decide +kernel
theorem dX8_likeness_18 : decode cX8_likeness 18 = .ok (.aload_n 0, 1) := by decide +kernel
theorem dX8_likeness_19 : decode cX8_likeness 19 = .ok (.getfield 13, 3) := by decide +kernel
theorem dX8_likeness_22 : decode cX8_likeness 22 = .ok (.iload_n 1, 1) := by decide +kernel
theorem dX8_likeness_23 : decode cX8_likeness 23 = .ok (.iload 4, 2) := by decide +kernel
theorem dX8_likeness_25 : decode cX8_likeness 25 = .ok (.iadd, 1) := by decide +kernel
theorem dX8_likeness_26 : decode cX8_likeness 26 = .ok (.iaload, 1) := by decide +kernel
theorem dX8_likeness_27 : decode cX8_likeness 27 = .ok (.aload_n 0, 1) := by decide +kernel
theorem dX8_likeness_28 : decode cX8_likeness 28 = .ok (.getfield 13, 3) := by decide +kernel
theorem dX8_likeness_31 : decode cX8_likeness 31 = .ok (.iload_n 1, 1) := by decide +kernel
theorem dX8_likeness_32 : decode cX8_likeness 32 = .ok (.iload 4, 2) := by decide +kernel
theorem dX8_likeness_34 : decode cX8_likeness 34 = .ok (.iadd, 1) := by decide +kernel
theorem dX8_likeness_35 : decode cX8_likeness 35 = .ok (.iload_n 2, 1) := by decide +kernel
theorem dX8_likeness_36 : decode cX8_likeness 36 = .ok (.isub, 1) := by decide +kernel
theorem dX8_likeness_37 : decode cX8_likeness 37 = .ok (.iaload, 1) := by decide +kernel
theorem dX8_likeness_38 : decode cX8_likeness 38 = .ok (.if_icmp .ne 9, 3) := by decide +kernel
theorem dX8_likeness_41 : decode cX8_likeness 41 = .ok (.iinc 4 1, 3) := by decide +kernel
theorem dX8_likeness_44 : decode cX8_likeness 44 = .ok (.goto (-41), 3) := by decide +kernel
theorem dX8_likeness_47 : decode cX8_likeness 47 = .ok (.iload 4, 2) := by decide +kernel
theorem dX8_likeness_49 : decode cX8_likeness 49 = .ok (.ireturn, 1) := by decide +kernel
theorem dX8_isPlace_0 : decode cX8_isPlace 0 = .ok (.iload_n 1, 1) := by decide +kernel
theorem dX8_isPlace_1 : decode cX8_isPlace 1 = .ok (.iconst 0, 1) := by decide +kernel
theorem dX8_isPlace_2 : decode cX8_isPlace 2 = .ok (.aload_n 0, 1) := by decide +kernel
theorem dX8_isPlace_3 : decode cX8_isPlace 3 = .ok (.getfield 92, 3) := by decide +kernel
theorem dX8_isPlace_6 : decode cX8_isPlace 6 = .ok (.iconst 1, 1) := by decide +kernel
theorem dX8_isPlace_7 : decode cX8_isPlace 7 = .ok (.isub, 1) := by decide +kernel
theorem dX8_isPlace_8 : decode cX8_isPlace 8 = .ok (.invokestatic 49, 3) := by decide +kernel
theorem dX8_isPlace_11 : decode cX8_isPlace 11 = .ok (.ireturn, 1) := by decide +kernel
theorem dX8_at_0 : decode cX8_at 0 = .ok (.aload_n 0, 1) := by decide +kernel
theorem dX8_at_1 : decode cX8_at 1 = .ok (.iload_n 1, 1) := by decide +kernel
theorem dX8_at_2 : decode cX8_at 2 = .ok (.invokevirtual 105, 3) := by decide +kernel
theorem dX8_at_5 : decode cX8_at 5 = .ok (.ifCond .eq 12, 3) := by decide +kernel
theorem dX8_at_8 : decode cX8_at 8 = .ok (.aload_n 0, 1) := by decide +kernel
theorem dX8_at_9 : decode cX8_at 9 = .ok (.getfield 13, 3) := by decide +kernel
theorem dX8_at_12 : decode cX8_at 12 = .ok (.iload_n 1, 1) := by decide +kernel
theorem dX8_at_13 : decode cX8_at 13 = .ok (.iaload, 1) := by decide +kernel
theorem dX8_at_14 : decode cX8_at 14 = .ok (.goto 6, 3) := by decide +kernel
theorem dX8_at_17 : decode cX8_at 17 = .ok (.sipush (-1001), 3) := by decide +kernel
theorem dX8_at_20 : decode cX8_at 20 = .ok (.ireturn, 1) := by decide +kernel
theorem dX8_farLongest_0 : decode cX8_farLongest 0 = .ok (.iconst 0, 1) := by decide +kernel
theorem dX8_farLongest_1 : decode cX8_farLongest 1 = .ok (.istore_n 2, 1) := by decide +kernel
theorem dX8_farLongest_2 : decode cX8_farLongest 2 = .ok (.iconst 1, 1) := by decide +kernel
theorem dX8_farLongest_3 : decode cX8_farLongest 3 = .ok (.istore_n 3, 1) := by decide +kernel
theorem dX8_farLongest_4 : decode cX8_farLongest 4 = .ok (.iconst 1, 1) := by decide +kernel
theorem dX8_farLongest_5 : decode cX8_farLongest 5 = .ok (.istore 4, 2) := by decide +kernel
theorem dX8_farLongest_7 : decode cX8_farLongest 7 = .ok (.iload 4, 2) := by decide +kernel
theorem dX8_farLongest_9 : decode cX8_farLongest 9 = .ok (.iload_n 1, 1) := by decide +kernel
theorem dX8_farLongest_10 : decode cX8_farLongest 10 = .ok (.if_icmp .gt 48, 3) := by decide +kernel
theorem dX8_farLongest_13 : decode cX8_farLongest 13 = .ok (.aload_n 0, 1) := by decide +kernel
theorem dX8_farLongest_14 : decode cX8_farLongest 14 = .ok (.iload_n 1, 1) := by decide +kernel
theorem dX8_farLongest_15 : decode cX8_farLongest 15 = .ok (.iload 4, 2) := by decide +kernel
theorem dX8_farLongest_17 : decode cX8_farLongest 17 = .ok (.aload_n 0, 1) := by decide +kernel
theorem dX8_farLongest_18 : decode cX8_farLongest 18 = .ok (.getfield 92, 3) := by decide +kernel
theorem dX8_farLongest_21 : decode cX8_farLongest 21 = .ok (.invokevirtual 108, 3) := by decide +kernel
theorem dX8_farLongest_24 : decode cX8_farLongest 24 = .ok (.istore 5, 2) := by decide +kernel
theorem dX8_farLongest_26 : decode cX8_farLongest 26 = .ok (.iload 5, 2) := by decide +kernel
theorem dX8_farLongest_28 : decode cX8_farLongest 28 = .ok (.iload_n 3, 1) := by decide +kernel
theorem dX8_farLongest_29 : decode cX8_farLongest 29 = .ok (.if_icmp .le 8, 3) := by decide +kernel
theorem dX8_farLongest_32 : decode cX8_farLongest 32 = .ok (.iload 4, 2) := by decide +kernel
theorem dX8_farLongest_34 : decode cX8_farLongest 34 = .ok (.goto 4, 3) := by decide +kernel
theorem dX8_farLongest_37 : decode cX8_farLongest 37 = .ok (.iload_n 2, 1) := by decide +kernel
theorem dX8_farLongest_38 : decode cX8_farLongest 38 = .ok (.istore_n 2, 1) := by decide +kernel
theorem dX8_farLongest_39 : decode cX8_farLongest 39 = .ok (.iload 5, 2) := by decide +kernel
theorem dX8_farLongest_41 : decode cX8_farLongest 41 = .ok (.iload_n 3, 1) := by decide +kernel
theorem dX8_farLongest_42 : decode cX8_farLongest 42 = .ok (.if_icmp .le 8, 3) := by decide +kernel
theorem dX8_farLongest_45 : decode cX8_farLongest 45 = .ok (.iload 5, 2) := by decide +kernel
theorem dX8_farLongest_47 : decode cX8_farLongest 47 = .ok (.goto 4, 3) := by decide +kernel
theorem dX8_farLongest_50 : decode cX8_farLongest 50 = .ok (.iload_n 3, 1) := by decide +kernel
theorem dX8_farLongest_51 : decode cX8_farLongest 51 = .ok (.istore_n 3, 1) := by decide +kernel
theorem dX8_farLongest_52 : decode cX8_farLongest 52 = .ok (.iinc 4 1, 3) := by decide +kernel
theorem dX8_farLongest_55 : decode cX8_farLongest 55 = .ok (.goto (-48), 3) := by decide +kernel
theorem dX8_farLongest_58 : decode cX8_farLongest 58 = .ok (.iload_n 2, 1) := by decide +kernel
theorem dX8_farLongest_59 : decode cX8_farLongest 59 = .ok (.ireturn, 1) := by decide +kernel
theorem dX8_longestNow_0 : decode cX8_longestNow 0 = .ok (.aload_n 0, 1) := by decide +kernel
theorem dX8_longestNow_1 : decode cX8_longestNow 1 = .ok (.iload_n 1, 1) := by decide +kernel
theorem dX8_longestNow_2 : decode cX8_longestNow 2 = .ok (.invokevirtual 112, 3) := by decide +kernel
theorem dX8_longestNow_5 : decode cX8_longestNow 5 = .ok (.istore_n 3, 1) := by decide +kernel
theorem dX8_longestNow_6 : decode cX8_longestNow 6 = .ok (.iload_n 2, 1) := by decide +kernel
theorem dX8_longestNow_7 : decode cX8_longestNow 7 = .ok (.iconst 1, 1) := by decide +kernel
theorem dX8_longestNow_8 : decode cX8_longestNow 8 = .ok (.if_icmp .eq 7, 3) := by decide +kernel
theorem dX8_longestNow_11 : decode cX8_longestNow 11 = .ok (.iload_n 3, 1) := by decide +kernel
theorem dX8_longestNow_12 : decode cX8_longestNow 12 = .ok (.ifCond .ne 7, 3) := by decide +kernel
theorem dX8_longestNow_15 : decode cX8_longestNow 15 = .ok (.iload_n 3, 1) := by decide +kernel
theorem dX8_longestNow_16 : decode cX8_longestNow 16 = .ok (.goto 13, 3) := by decide +kernel
theorem dX8_longestNow_19 : decode cX8_longestNow 19 = .ok (.aload_n 0, 1) := by decide +kernel
theorem dX8_longestNow_20 : decode cX8_longestNow 20 = .ok (.iload_n 1, 1) := by decide +kernel
theorem dX8_longestNow_21 : decode cX8_longestNow 21 = .ok (.iload_n 3, 1) := by decide +kernel
theorem dX8_longestNow_22 : decode cX8_longestNow 22 = .ok (.aload_n 0, 1) := by decide +kernel
theorem dX8_longestNow_23 : decode cX8_longestNow 23 = .ok (.getfield 92, 3) := by decide +kernel
theorem dX8_longestNow_26 : decode cX8_longestNow 26 = .ok (.invokevirtual 108, 3) := by decide +kernel
theorem dX8_longestNow_29 : decode cX8_longestNow 29 = .ok (.ireturn, 1) := by decide +kernel
theorem dX8_longest_0 : decode cX8_longest 0 = .ok (.aload_n 0, 1) := by decide +kernel
theorem dX8_longest_1 : decode cX8_longest 1 = .ok (.iload_n 1, 1) := by decide +kernel
theorem dX8_longest_2 : decode cX8_longest 2 = .ok (.invokevirtual 105, 3) := by decide +kernel
theorem dX8_longest_5 : decode cX8_longest 5 = .ok (.ifCond .ne 7, 3) := by decide +kernel
theorem dX8_longest_8 : decode cX8_longest 8 = .ok (.sipush (-1001), 3) := by decide +kernel
theorem dX8_longest_11 : decode cX8_longest 11 = .ok (.ireturn, 1) := by decide +kernel
theorem dX8_longest_12 : decode cX8_longest 12 = .ok (.iload_n 2, 1) := by decide +kernel
theorem dX8_longest_13 : decode cX8_longest 13 = .ok (.iconst 0, 1) := by decide +kernel
theorem dX8_longest_14 : decode cX8_longest 14 = .ok (.iconst 1, 1) := by decide +kernel
theorem dX8_longest_15 : decode cX8_longest 15 = .ok (.invokestatic 49, 3) := by decide +kernel
theorem dX8_longest_18 : decode cX8_longest 18 = .ok (.ifCond .eq 12, 3) := by decide +kernel
theorem dX8_longest_21 : decode cX8_longest 21 = .ok (.aload_n 0, 1) := by decide +kernel
theorem dX8_longest_22 : decode cX8_longest 22 = .ok (.iload_n 1, 1) := by decide +kernel
theorem dX8_longest_23 : decode cX8_longest 23 = .ok (.iload_n 2, 1) := by decide +kernel
theorem dX8_longest_24 : decode cX8_longest 24 = .ok (.invokevirtual 115, 3) := by decide +kernel
theorem dX8_longest_27 : decode cX8_longest 27 = .ok (.goto 6, 3) := by decide +kernel
theorem dX8_longest_30 : decode cX8_longest 30 = .ok (.sipush (-1002), 3) := by decide +kernel
theorem dX8_longest_33 : decode cX8_longest 33 = .ok (.ireturn, 1) := by decide +kernel
theorem dX8_chainNow_0 : decode cX8_chainNow 0 = .ok (.iload_n 2, 1) := by decide +kernel
theorem dX8_chainNow_1 : decode cX8_chainNow 1 = .ok (.istore_n 3, 1) := by decide +kernel
theorem dX8_chainNow_2 : decode cX8_chainNow 2 = .ok (.iconst 1, 1) := by decide +kernel
theorem dX8_chainNow_3 : decode cX8_chainNow 3 = .ok (.istore 4, 2) := by decide +kernel
theorem dX8_chainNow_5 : decode cX8_chainNow 5 = .ok (.iload 4, 2) := by decide +kernel
theorem dX8_chainNow_7 : decode cX8_chainNow 7 = .ok (.iload_n 1, 1) := by decide +kernel
theorem dX8_chainNow_8 : decode cX8_chainNow 8 = .ok (.if_icmp .gt 40, 3) := by decide +kernel
theorem dX8_chainNow_11 : decode cX8_chainNow 11 = .ok (.iload_n 3, 1) := by decide +kernel
theorem dX8_chainNow_12 : decode cX8_chainNow 12 = .ok (.ifCond .lt 36, 3) := by decide +kernel
theorem dX8_chainNow_15 : decode cX8_chainNow 15 = .ok (.aload_n 0, 1) := by decide +kernel
theorem dX8_chainNow_16 : decode cX8_chainNow 16 = .ok (.iload_n 1, 1) := by decide +kernel
theorem dX8_chainNow_17 : decode cX8_chainNow 17 = .ok (.iload 4, 2) := by decide +kernel
theorem dX8_chainNow_19 : decode cX8_chainNow 19 = .ok (.aload_n 0, 1) := by decide +kernel
theorem dX8_chainNow_20 : decode cX8_chainNow 20 = .ok (.getfield 92, 3) := by decide +kernel
theorem dX8_chainNow_23 : decode cX8_chainNow 23 = .ok (.invokevirtual 108, 3) := by decide +kernel
theorem dX8_chainNow_26 : decode cX8_chainNow 26 = .ok (.iconst 1, 1) := by decide +kernel
theorem dX8_chainNow_27 : decode cX8_chainNow 27 = .ok (.if_icmp .le 15, 3) := by decide +kernel
theorem dX8_chainNow_30 : decode cX8_chainNow 30 = .ok (.iload_n 3, 1) := by decide +kernel
theorem dX8_chainNow_31 : decode cX8_chainNow 31 = .ok (.ifCond .ne 8, 3) := by decide +kernel
theorem dX8_chainNow_34 : decode cX8_chainNow 34 = .ok (.iload_n 1, 1) := by decide +kernel
theorem dX8_chainNow_35 : decode cX8_chainNow 35 = .ok (.iload 4, 2) := by decide +kernel
theorem dX8_chainNow_37 : decode cX8_chainNow 37 = .ok (.isub, 1) := by decide +kernel
theorem dX8_chainNow_38 : decode cX8_chainNow 38 = .ok (.ireturn, 1) := by decide +kernel
theorem dX8_chainNow_39 : decode cX8_chainNow 39 = .ok (.iinc 3 (-1), 3) := by decide +kernel
theorem dX8_chainNow_42 : decode cX8_chainNow 42 = .ok (.iinc 4 1, 3) := by decide +kernel
theorem dX8_chainNow_45 : decode cX8_chainNow 45 = .ok (.goto (-40), 3) := by decide +kernel
theorem dX8_chainNow_48 : decode cX8_chainNow 48 = .ok (.iconst (-1), 1) := by decide +kernel
theorem dX8_chainNow_49 : decode cX8_chainNow 49 = .ok (.ireturn, 1) := by decide +kernel
theorem dX8_chain_0 : decode cX8_chain 0 = .ok (.aload_n 0, 1) := by decide +kernel
theorem dX8_chain_1 : decode cX8_chain 1 = .ok (.iload_n 1, 1) := by decide +kernel
theorem dX8_chain_2 : decode cX8_chain 2 = .ok (.invokevirtual 105, 3) := by decide +kernel
theorem dX8_chain_5 : decode cX8_chain 5 = .ok (.ifCond .eq 12, 3) := by decide +kernel
theorem dX8_chain_8 : decode cX8_chain 8 = .ok (.aload_n 0, 1) := by decide +kernel
theorem dX8_chain_9 : decode cX8_chain 9 = .ok (.iload_n 1, 1) := by decide +kernel
theorem dX8_chain_10 : decode cX8_chain 10 = .ok (.iload_n 2, 1) := by decide +kernel
theorem dX8_chain_11 : decode cX8_chain 11 = .ok (.invokevirtual 118, 3) := by decide +kernel
theorem dX8_chain_14 : decode cX8_chain 14 = .ok (.goto 6, 3) := by decide +kernel
theorem dX8_chain_17 : decode cX8_chain 17 = .ok (.sipush (-1001), 3) := by decide +kernel
theorem dX8_chain_20 : decode cX8_chain 20 = .ok (.ireturn, 1) := by decide +kernel
theorem dX8_way_0 : decode cX8_way 0 = .ok (.iload_n 3, 1) := by decide +kernel
theorem dX8_way_1 : decode cX8_way 1 = .ok (.aload_n 0, 1) := by decide +kernel
theorem dX8_way_2 : decode cX8_way 2 = .ok (.getfield 22, 3) := by decide +kernel
theorem dX8_way_5 : decode cX8_way 5 = .ok (.iload_n 2, 1) := by decide +kernel
theorem dX8_way_6 : decode cX8_way 6 = .ok (.iaload, 1) := by decide +kernel
theorem dX8_way_7 : decode cX8_way 7 = .ok (.iadd, 1) := by decide +kernel
theorem dX8_way_8 : decode cX8_way 8 = .ok (.istore 5, 2) := by decide +kernel
theorem dX8_way_10 : decode cX8_way 10 = .ok (.iconst 1, 1) := by decide +kernel
theorem dX8_way_11 : decode cX8_way 11 = .ok (.aload_n 0, 1) := by decide +kernel
theorem dX8_way_12 : decode cX8_way 12 = .ok (.getfield 25, 3) := by decide +kernel
theorem dX8_way_15 : decode cX8_way 15 = .ok (.iload_n 2, 1) := by decide +kernel
theorem dX8_way_16 : decode cX8_way 16 = .ok (.iaload, 1) := by decide +kernel
theorem dX8_way_17 : decode cX8_way 17 = .ok (.iadd, 1) := by decide +kernel
theorem dX8_way_18 : decode cX8_way 18 = .ok (.istore 6, 2) := by decide +kernel
theorem dX8_way_20 : decode cX8_way 20 = .ok (.iload 5, 2) := by decide +kernel
theorem dX8_way_22 : decode cX8_way 22 = .ok (.aload_n 0, 1) := by decide +kernel
theorem dX8_way_23 : decode cX8_way 23 = .ok (.getfield 22, 3) := by decide +kernel
theorem dX8_way_26 : decode cX8_way 26 = .ok (.iload_n 1, 1) := by decide +kernel
theorem dX8_way_27 : decode cX8_way 27 = .ok (.iaload, 1) := by decide +kernel
theorem dX8_way_28 : decode cX8_way 28 = .ok (.if_icmp .lt 47, 3) := by decide +kernel
theorem dX8_way_31 : decode cX8_way 31 = .ok (.iload 5, 2) := by decide +kernel
theorem dX8_way_33 : decode cX8_way 33 = .ok (.aload_n 0, 1) := by decide +kernel
theorem dX8_way_34 : decode cX8_way 34 = .ok (.getfield 22, 3) := by decide +kernel
theorem dX8_way_37 : decode cX8_way 37 = .ok (.iload_n 1, 1) := by decide +kernel
theorem dX8_way_38 : decode cX8_way 38 = .ok (.iaload, 1) := by decide +kernel
theorem dX8_way_39 : decode cX8_way 39 = .ok (.if_icmp .ne 40, 3) := by decide +kernel
theorem dX8_way_42 : decode cX8_way 42 = .ok (.iload 6, 2) := by decide +kernel
theorem dX8_way_44 : decode cX8_way 44 = .ok (.aload_n 0, 1) := by decide +kernel
theorem dX8_way_45 : decode cX8_way 45 = .ok (.getfield 25, 3) := by decide +kernel
theorem dX8_way_48 : decode cX8_way 48 = .ok (.iload_n 1, 1) := by decide +kernel
theorem dX8_way_49 : decode cX8_way 49 = .ok (.iaload, 1) := by decide +kernel
theorem dX8_way_50 : decode cX8_way 50 = .ok (.if_icmp .lt 25, 3) := by decide +kernel
theorem dX8_way_53 : decode cX8_way 53 = .ok (.iload 6, 2) := by decide +kernel
theorem dX8_way_55 : decode cX8_way 55 = .ok (.aload_n 0, 1) := by decide +kernel
theorem dX8_way_56 : decode cX8_way 56 = .ok (.getfield 25, 3) := by decide +kernel
theorem dX8_way_59 : decode cX8_way 59 = .ok (.iload_n 1, 1) := by decide +kernel
theorem dX8_way_60 : decode cX8_way 60 = .ok (.iaload, 1) := by decide +kernel
theorem dX8_way_61 : decode cX8_way 61 = .ok (.if_icmp .ne 18, 3) := by decide +kernel
theorem dX8_way_64 : decode cX8_way 64 = .ok (.iload 4, 2) := by decide +kernel
theorem dX8_way_66 : decode cX8_way 66 = .ok (.aload_n 0, 1) := by decide +kernel
theorem dX8_way_67 : decode cX8_way 67 = .ok (.getfield 28, 3) := by decide +kernel
theorem dX8_way_70 : decode cX8_way 70 = .ok (.iload_n 1, 1) := by decide +kernel
theorem dX8_way_71 : decode cX8_way 71 = .ok (.iaload, 1) := by decide +kernel
theorem dX8_way_72 : decode cX8_way 72 = .ok (.if_icmp .ge 7, 3) := by decide +kernel
theorem dX8_way_75 : decode cX8_way 75 = .ok (.iconst 1, 1) := by decide +kernel
theorem dX8_way_76 : decode cX8_way 76 = .ok (.goto 4, 3) := by decide +kernel
theorem dX8_way_79 : decode cX8_way 79 = .ok (.iconst 0, 1) := by decide +kernel
theorem dX8_way_80 : decode cX8_way 80 = .ok (.istore 7, 2) := by decide +kernel
theorem dX8_way_82 : decode cX8_way 82 = .ok (.iload 7, 2) := by decide +kernel
theorem dX8_way_84 : decode cX8_way 84 = .ok (.ifCond .eq 27, 3) := by decide +kernel
theorem dX8_way_87 : decode cX8_way 87 = .ok (.aload_n 0, 1) := by decide +kernel
theorem dX8_way_88 : decode cX8_way 88 = .ok (.getfield 22, 3) := by decide +kernel
theorem dX8_way_91 : decode cX8_way 91 = .ok (.iload_n 1, 1) := by decide +kernel
theorem dX8_way_92 : decode cX8_way 92 = .ok (.iload 5, 2) := by decide +kernel
theorem dX8_way_94 : decode cX8_way 94 = .ok (.iastore, 1) := by decide +kernel
theorem dX8_way_95 : decode cX8_way 95 = .ok (.aload_n 0, 1) := by decide +kernel
theorem dX8_way_96 : decode cX8_way 96 = .ok (.getfield 25, 3) := by decide +kernel
theorem dX8_way_99 : decode cX8_way 99 = .ok (.iload_n 1, 1) := by decide +kernel
theorem dX8_way_100 : decode cX8_way 100 = .ok (.iload 6, 2) := by decide +kernel
theorem dX8_way_102 : decode cX8_way 102 = .ok (.iastore, 1) := by decide +kernel
theorem dX8_way_103 : decode cX8_way 103 = .ok (.aload_n 0, 1) := by decide +kernel
theorem dX8_way_104 : decode cX8_way 104 = .ok (.getfield 28, 3) := by decide +kernel
theorem dX8_way_107 : decode cX8_way 107 = .ok (.iload_n 1, 1) := by decide +kernel
theorem dX8_way_108 : decode cX8_way 108 = .ok (.iload 4, 2) := by decide +kernel
theorem dX8_way_110 : decode cX8_way 110 = .ok (.iastore, 1) := by decide +kernel
theorem dX8_way_111 : decode cX8_way 111 = .ok (.return_, 1) := by decide +kernel
theorem dX8_layState_0 : decode cX8_layState 0 = .ok (.bipush 25, 2) := by decide +kernel
theorem dX8_layState_2 : decode cX8_layState 2 = .ok (.iload_n 2, 1) := by decide +kernel
theorem dX8_layState_3 : decode cX8_layState 3 = .ok (.imul, 1) := by decide +kernel
theorem dX8_layState_4 : decode cX8_layState 4 = .ok (.iload_n 3, 1) := by decide +kernel
theorem dX8_layState_5 : decode cX8_layState 5 = .ok (.iadd, 1) := by decide +kernel
theorem dX8_layState_6 : decode cX8_layState 6 = .ok (.istore 4, 2) := by decide +kernel
theorem dX8_layState_8 : decode cX8_layState 8 = .ok (.aload_n 0, 1) := by decide +kernel
theorem dX8_layState_9 : decode cX8_layState 9 = .ok (.getfield 22, 3) := by decide +kernel
theorem dX8_layState_12 : decode cX8_layState 12 = .ok (.iload 4, 2) := by decide +kernel
theorem dX8_layState_14 : decode cX8_layState 14 = .ok (.ldc 121, 2) := by decide +kernel
theorem dX8_layState_16 : decode cX8_layState 16 = .ok (.iastore, 1) := by decide +kernel
theorem dX8_layState_17 : decode cX8_layState 17 = .ok (.aload_n 0, 1) := by decide +kernel
theorem dX8_layState_18 : decode cX8_layState 18 = .ok (.getfield 25, 3) := by decide +kernel
theorem dX8_layState_21 : decode cX8_layState 21 = .ok (.iload 4, 2) := by decide +kernel
theorem dX8_layState_23 : decode cX8_layState 23 = .ok (.iconst 0, 1) := by decide +kernel
theorem dX8_layState_24 : decode cX8_layState 24 = .ok (.iastore, 1) := by decide +kernel
theorem dX8_layState_25 : decode cX8_layState 25 = .ok (.aload_n 0, 1) := by decide +kernel
theorem dX8_layState_26 : decode cX8_layState 26 = .ok (.getfield 28, 3) := by decide +kernel
theorem dX8_layState_29 : decode cX8_layState 29 = .ok (.iload 4, 2) := by decide +kernel
theorem dX8_layState_31 : decode cX8_layState 31 = .ok (.iconst (-1), 1) := by decide +kernel
theorem dX8_layState_32 : decode cX8_layState 32 = .ok (.iastore, 1) := by decide +kernel
theorem dX8_layState_33 : decode cX8_layState 33 = .ok (.aload_n 0, 1) := by decide +kernel
theorem dX8_layState_34 : decode cX8_layState 34 = .ok (.getfield 13, 3) := by decide +kernel
theorem dX8_layState_37 : decode cX8_layState 37 = .ok (.iload_n 1, 1) := by decide +kernel
theorem dX8_layState_38 : decode cX8_layState 38 = .ok (.iload_n 2, 1) := by decide +kernel
theorem dX8_layState_39 : decode cX8_layState 39 = .ok (.iadd, 1) := by decide +kernel
theorem dX8_layState_40 : decode cX8_layState 40 = .ok (.iaload, 1) := by decide +kernel
theorem dX8_layState_41 : decode cX8_layState 41 = .ok (.istore 5, 2) := by decide +kernel
theorem dX8_layState_43 : decode cX8_layState 43 = .ok (.aload_n 0, 1) := by decide +kernel
theorem dX8_layState_44 : decode cX8_layState 44 = .ok (.iload 4, 2) := by decide +kernel
theorem dX8_layState_46 : decode cX8_layState 46 = .ok (.iload 4, 2) := by decide +kernel
theorem dX8_layState_48 : decode cX8_layState 48 = .ok (.bipush 25, 2) := by decide +kernel
theorem dX8_layState_50 : decode cX8_layState 50 = .ok (.iadd, 1) := by decide +kernel
theorem dX8_layState_51 : decode cX8_layState 51 = .ok (.aload_n 0, 1) := by decide +kernel
theorem dX8_layState_52 : decode cX8_layState 52 = .ok (.getfield 16, 3) := by decide +kernel
theorem dX8_layState_55 : decode cX8_layState 55 = .ok (.iload 5, 2) := by decide +kernel
theorem dX8_layState_57 : decode cX8_layState 57 = .ok (.iaload, 1) := by decide +kernel
theorem dX8_layState_58 : decode cX8_layState 58 = .ok (.iload 5, 2) := by decide +kernel
theorem dX8_layState_60 : decode cX8_layState 60 = .ok (.invokevirtual 122, 3) := by decide +kernel
theorem dX8_layState_63 : decode cX8_layState 63 = .ok (.iload_n 3, 1) := by decide +kernel
theorem dX8_layState_64 : decode cX8_layState 64 = .ok (.ifCond .ne 7, 3) := by decide +kernel
theorem dX8_layState_67 : decode cX8_layState 67 = .ok (.iconst 0, 1) := by decide +kernel
theorem dX8_layState_68 : decode cX8_layState 68 = .ok (.goto 14, 3) := by decide +kernel
theorem dX8_layState_71 : decode cX8_layState 71 = .ok (.aload_n 0, 1) := by decide +kernel
theorem dX8_layState_72 : decode cX8_layState 72 = .ok (.getfield 31, 3) := by decide +kernel
theorem dX8_layState_75 : decode cX8_layState 75 = .ok (.bipush 25, 2) := by decide +kernel
theorem dX8_layState_77 : decode cX8_layState 77 = .ok (.iload_n 2, 1) := by decide +kernel
theorem dX8_layState_78 : decode cX8_layState 78 = .ok (.imul, 1) := by decide +kernel
theorem dX8_layState_79 : decode cX8_layState 79 = .ok (.iload_n 3, 1) := by decide +kernel
theorem dX8_layState_80 : decode cX8_layState 80 = .ok (.iadd, 1) := by decide +kernel
theorem dX8_layState_81 : decode cX8_layState 81 = .ok (.iaload, 1) := by decide +kernel
theorem dX8_layState_82 : decode cX8_layState 82 = .ok (.istore 6, 2) := by decide +kernel
theorem dX8_layState_84 : decode cX8_layState 84 = .ok (.iconst 2, 1) := by decide +kernel
theorem dX8_layState_85 : decode cX8_layState 85 = .ok (.istore 7, 2) := by decide +kernel
theorem dX8_layState_87 : decode cX8_layState 87 = .ok (.iload 7, 2) := by decide +kernel
theorem dX8_layState_89 : decode cX8_layState 89 = .ok (.iload 6, 2) := by decide +kernel
theorem dX8_layState_91 : decode cX8_layState 91 = .ok (.if_icmp .gt 34, 3) := by decide +kernel
theorem dX8_layState_94 : decode cX8_layState 94 = .ok (.aload_n 0, 1) := by decide +kernel
theorem dX8_layState_95 : decode cX8_layState 95 = .ok (.iload 4, 2) := by decide +kernel
theorem dX8_layState_97 : decode cX8_layState 97 = .ok (.iload 4, 2) := by decide +kernel
theorem dX8_layState_99 : decode cX8_layState 99 = .ok (.bipush 25, 2) := by decide +kernel
theorem dX8_layState_101 : decode cX8_layState 101 = .ok (.iload 7, 2) := by decide +kernel
theorem dX8_layState_103 : decode cX8_layState 103 = .ok (.imul, 1) := by decide +kernel
theorem dX8_layState_104 : decode cX8_layState 104 = .ok (.iadd, 1) := by decide +kernel
theorem dX8_layState_105 : decode cX8_layState 105 = .ok (.aload_n 0, 1) := by decide +kernel
theorem dX8_layState_106 : decode cX8_layState 106 = .ok (.iload 7, 2) := by decide +kernel
theorem dX8_layState_108 : decode cX8_layState 108 = .ok (.invokevirtual 78, 3) := by decide +kernel
theorem dX8_layState_111 : decode cX8_layState 111 = .ok (.bipush 100, 2) := by decide +kernel
theorem dX8_layState_113 : decode cX8_layState 113 = .ok (.iload 7, 2) := by decide +kernel
theorem dX8_layState_115 : decode cX8_layState 115 = .ok (.iadd, 1) := by decide +kernel
theorem dX8_layState_116 : decode cX8_layState 116 = .ok (.invokevirtual 122, 3) := by decide +kernel
theorem dX8_layState_119 : decode cX8_layState 119 = .ok (.iinc 7 1, 3) := by decide +kernel
theorem dX8_layState_122 : decode cX8_layState 122 = .ok (.goto (-35), 3) := by decide +kernel
theorem dX8_layState_125 : decode cX8_layState 125 = .ok (.iconst 1, 1) := by decide +kernel
theorem dX8_layState_126 : decode cX8_layState 126 = .ok (.istore 7, 2) := by decide +kernel
theorem dX8_layState_128 : decode cX8_layState 128 = .ok (.iload 7, 2) := by decide +kernel
theorem dX8_layState_130 : decode cX8_layState 130 = .ok (.iload_n 2, 1) := by decide +kernel
theorem dX8_layState_131 : decode cX8_layState 131 = .ok (.if_icmp .gt 71, 3) := by decide +kernel
theorem dX8_layState_134 : decode cX8_layState 134 = .ok (.iconst 2, 1) := by decide +kernel
theorem dX8_layState_135 : decode cX8_layState 135 = .ok (.istore 8, 2) := by decide +kernel
theorem dX8_layState_137 : decode cX8_layState 137 = .ok (.iload 8, 2) := by decide +kernel
theorem dX8_layState_139 : decode cX8_layState 139 = .ok (.aload_n 0, 1) := by decide +kernel
theorem dX8_layState_140 : decode cX8_layState 140 = .ok (.getfield 31, 3) := by decide +kernel
theorem dX8_layState_143 : decode cX8_layState 143 = .ok (.bipush 25, 2) := by decide +kernel
theorem dX8_layState_145 : decode cX8_layState 145 = .ok (.iload_n 2, 1) := by decide +kernel
theorem dX8_layState_146 : decode cX8_layState 146 = .ok (.imul, 1) := by decide +kernel
theorem dX8_layState_147 : decode cX8_layState 147 = .ok (.iload 7, 2) := by decide +kernel
theorem dX8_layState_149 : decode cX8_layState 149 = .ok (.iadd, 1) := by decide +kernel
theorem dX8_layState_150 : decode cX8_layState 150 = .ok (.iaload, 1) := by decide +kernel
theorem dX8_layState_151 : decode cX8_layState 151 = .ok (.if_icmp .gt 45, 3) := by decide +kernel
theorem dX8_layState_154 : decode cX8_layState 154 = .ok (.aload_n 0, 1) := by decide +kernel
theorem dX8_layState_155 : decode cX8_layState 155 = .ok (.iload 4, 2) := by decide +kernel
theorem dX8_layState_157 : decode cX8_layState 157 = .ok (.bipush 25, 2) := by decide +kernel
theorem dX8_layState_159 : decode cX8_layState 159 = .ok (.iload_n 2, 1) := by decide +kernel
