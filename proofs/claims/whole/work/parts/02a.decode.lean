theorem dX0_init_0 : decode cX0_init 0 = .ok (.aload_n 0, 1) := by decide +kernel
theorem dX0_init_1 : decode cX0_init 1 = .ok (.invokespecial 3, 3) := by decide +kernel
theorem dX0_init_4 : decode cX0_init 4 = .ok (.aload_n 0, 1) := by decide +kernel
theorem dX0_init_5 : decode cX0_init 5 = .ok (.bipush 25, 2) := by decide +kernel
theorem dX0_init_7 : decode cX0_init 7 = .ok (.bipush 25, 2) := by decide +kernel
theorem dX0_init_9 : decode cX0_init 9 = .ok (.multianewarray 9 2, 4) := by decide +kernel
theorem dX0_init_13 : decode cX0_init 13 = .ok (.putfield 11, 3) := by decide +kernel
theorem dX0_init_16 : decode cX0_init 16 = .ok (.aload_n 0, 1) := by decide +kernel
theorem dX0_init_17 : decode cX0_init 17 = .ok (.bipush 25, 2) := by decide +kernel
theorem dX0_init_19 : decode cX0_init 19 = .ok (.bipush 25, 2) := by decide +kernel
theorem dX0_init_21 : decode cX0_init 21 = .ok (.multianewarray 9 2, 4) := by decide +kernel
theorem dX0_init_25 : decode cX0_init 25 = .ok (.putfield 16, 3) := by decide +kernel
theorem dX0_init_28 : decode cX0_init 28 = .ok (.aload_n 0, 1) := by decide +kernel
theorem dX0_init_29 : decode cX0_init 29 = .ok (.iconst (-1), 1) := by decide +kernel
theorem dX0_init_30 : decode cX0_init 30 = .ok (.putfield 19, 3) := by decide +kernel
theorem dX0_init_33 : decode cX0_init 33 = .ok (.aload_n 0, 1) := by decide +kernel
theorem dX0_init_34 : decode cX0_init 34 = .ok (.iconst 0, 1) := by decide +kernel
theorem dX0_init_35 : decode cX0_init 35 = .ok (.putfield 23, 3) := by decide +kernel
theorem dX0_init_38 : decode cX0_init 38 = .ok (.return_, 1) := by decide +kernel
theorem dX0_choose_0 : decode cX0_choose 0 = .ok (.aload 5, 2) := by decide +kernel
theorem dX0_choose_2 : decode cX0_choose 2 = .ok (.invokevirtual 26, 3) := by decide +kernel
theorem dX0_choose_5 : decode cX0_choose 5 = .ok (.iload_n 3, 1) := by decide +kernel
theorem dX0_choose_6 : decode cX0_choose 6 = .ok (.ifCond .lt 25, 3) := by decide +kernel
theorem dX0_choose_9 : decode cX0_choose 9 = .ok (.iload_n 3, 1) := by decide +kernel
theorem dX0_choose_10 : decode cX0_choose 10 = .ok (.iload 4, 2) := by decide +kernel
theorem dX0_choose_12 : decode cX0_choose 12 = .ok (.if_icmp .ge 19, 3) := by decide +kernel
theorem dX0_choose_15 : decode cX0_choose 15 = .ok (.iload 4, 2) := by decide +kernel
theorem dX0_choose_17 : decode cX0_choose 17 = .ok (.aload_n 1, 1) := by decide +kernel
theorem dX0_choose_18 : decode cX0_choose 18 = .ok (.invokevirtual 31, 3) := by decide +kernel
theorem dX0_choose_21 : decode cX0_choose 21 = .ok (.if_icmp .gt 10, 3) := by decide +kernel
theorem dX0_choose_24 : decode cX0_choose 24 = .ok (.iload 4, 2) := by decide +kernel
theorem dX0_choose_26 : decode cX0_choose 26 = .ok (.bipush 24, 2) := by decide +kernel
theorem dX0_choose_28 : decode cX0_choose 28 = .ok (.if_icmp .le 4, 3) := by decide +kernel
theorem dX0_choose_31 : decode cX0_choose 31 = .ok (.return_, 1) := by decide +kernel
theorem dX0_choose_32 : decode cX0_choose 32 = .ok (.iconst 0, 1) := by decide +kernel
theorem dX0_choose_33 : decode cX0_choose 33 = .ok (.istore 6, 2) := by decide +kernel
theorem dX0_choose_35 : decode cX0_choose 35 = .ok (.iload 6, 2) := by decide +kernel
theorem dX0_choose_37 : decode cX0_choose 37 = .ok (.iload 4, 2) := by decide +kernel
theorem dX0_choose_39 : decode cX0_choose 39 = .ok (.iload_n 3, 1) := by decide +kernel
theorem dX0_choose_40 : decode cX0_choose 40 = .ok (.isub, 1) := by decide +kernel
theorem dX0_choose_41 : decode cX0_choose 41 = .ok (.if_icmp .gt 20, 3) := by decide +kernel
theorem dX0_choose_44 : decode cX0_choose 44 = .ok (.aload_n 0, 1) := by decide +kernel
theorem dX0_choose_45 : decode cX0_choose 45 = .ok (.getfield 11, 3) := by decide +kernel
theorem dX0_choose_48 : decode cX0_choose 48 = .ok (.iload 4, 2) := by decide +kernel
theorem dX0_choose_50 : decode cX0_choose 50 = .ok (.aaload, 1) := by decide +kernel
theorem dX0_choose_51 : decode cX0_choose 51 = .ok (.iload 6, 2) := by decide +kernel
theorem dX0_choose_53 : decode cX0_choose 53 = .ok (.iconst 0, 1) := by decide +kernel
theorem dX0_choose_54 : decode cX0_choose 54 = .ok (.iastore, 1) := by decide +kernel
theorem dX0_choose_55 : decode cX0_choose 55 = .ok (.iinc 6 1, 3) := by decide +kernel
theorem dX0_choose_58 : decode cX0_choose 58 = .ok (.goto (-23), 3) := by decide +kernel
theorem dX0_choose_61 : decode cX0_choose 61 = .ok (.iload 4, 2) := by decide +kernel
theorem dX0_choose_63 : decode cX0_choose 63 = .ok (.iconst 1, 1) := by decide +kernel
theorem dX0_choose_64 : decode cX0_choose 64 = .ok (.isub, 1) := by decide +kernel
theorem dX0_choose_65 : decode cX0_choose 65 = .ok (.istore 6, 2) := by decide +kernel
theorem dX0_choose_67 : decode cX0_choose 67 = .ok (.iload 6, 2) := by decide +kernel
theorem dX0_choose_69 : decode cX0_choose 69 = .ok (.iload_n 3, 1) := by decide +kernel
theorem dX0_choose_70 : decode cX0_choose 70 = .ok (.if_icmp .lt 31, 3) := by decide +kernel
theorem dX0_choose_73 : decode cX0_choose 73 = .ok (.aload_n 0, 1) := by decide +kernel
theorem dX0_choose_74 : decode cX0_choose 74 = .ok (.aload_n 1, 1) := by decide +kernel
theorem dX0_choose_75 : decode cX0_choose 75 = .ok (.aload_n 2, 1) := by decide +kernel
theorem dX0_choose_76 : decode cX0_choose 76 = .ok (.iload_n 3, 1) := by decide +kernel
theorem dX0_choose_77 : decode cX0_choose 77 = .ok (.iload 4, 2) := by decide +kernel
theorem dX0_choose_79 : decode cX0_choose 79 = .ok (.iload 6, 2) := by decide +kernel
theorem dX0_choose_81 : decode cX0_choose 81 = .ok (.invokevirtual 37, 3) := by decide +kernel
theorem dX0_choose_84 : decode cX0_choose 84 = .ok (.aload_n 0, 1) := by decide +kernel
theorem dX0_choose_85 : decode cX0_choose 85 = .ok (.aload_n 1, 1) := by decide +kernel
theorem dX0_choose_86 : decode cX0_choose 86 = .ok (.aload_n 2, 1) := by decide +kernel
theorem dX0_choose_87 : decode cX0_choose 87 = .ok (.iload_n 3, 1) := by decide +kernel
theorem dX0_choose_88 : decode cX0_choose 88 = .ok (.iload 4, 2) := by decide +kernel
theorem dX0_choose_90 : decode cX0_choose 90 = .ok (.iload 6, 2) := by decide +kernel
theorem dX0_choose_92 : decode cX0_choose 92 = .ok (.invokevirtual 41, 3) := by decide +kernel
theorem dX0_choose_95 : decode cX0_choose 95 = .ok (.iinc 6 (-1), 3) := by decide +kernel
theorem dX0_choose_98 : decode cX0_choose 98 = .ok (.goto (-31), 3) := by decide +kernel
theorem dX0_choose_101 : decode cX0_choose 101 = .ok (.aload_n 0, 1) := by decide +kernel
theorem dX0_choose_102 : decode cX0_choose 102 = .ok (.iload_n 3, 1) := by decide +kernel
theorem dX0_choose_103 : decode cX0_choose 103 = .ok (.iload 4, 2) := by decide +kernel
theorem dX0_choose_105 : decode cX0_choose 105 = .ok (.aload 5, 2) := by decide +kernel
theorem dX0_choose_107 : decode cX0_choose 107 = .ok (.invokevirtual 44, 3) := by decide +kernel
theorem dX0_choose_110 : decode cX0_choose 110 = .ok (.return_, 1) := by decide +kernel
theorem dX0_chooseCopy_0 : decode cX0_chooseCopy 0 = .ok (.aload_n 0, 1) := by decide +kernel
theorem dX0_chooseCopy_1 : decode cX0_chooseCopy 1 = .ok (.iconst (-1), 1) := by decide +kernel
theorem dX0_chooseCopy_2 : decode cX0_chooseCopy 2 = .ok (.putfield 19, 3) := by decide +kernel
theorem dX0_chooseCopy_5 : decode cX0_chooseCopy 5 = .ok (.iconst 1, 1) := by decide +kernel
theorem dX0_chooseCopy_6 : decode cX0_chooseCopy 6 = .ok (.istore 6, 2) := by decide +kernel
theorem dX0_chooseCopy_8 : decode cX0_chooseCopy 8 = .ok (.iload 6, 2) := by decide +kernel
theorem dX0_chooseCopy_10 : decode cX0_chooseCopy 10 = .ok (.iload 5, 2) := by decide +kernel
theorem dX0_chooseCopy_12 : decode cX0_chooseCopy 12 = .ok (.iload_n 3, 1) := by decide +kernel
theorem dX0_chooseCopy_13 : decode cX0_chooseCopy 13 = .ok (.isub, 1) := by decide +kernel
theorem dX0_chooseCopy_14 : decode cX0_chooseCopy 14 = .ok (.if_icmp .gt 77, 3) := by decide +kernel
theorem dX0_chooseCopy_17 : decode cX0_chooseCopy 17 = .ok (.aload_n 1, 1) := by decide +kernel
theorem dX0_chooseCopy_18 : decode cX0_chooseCopy 18 = .ok (.iload 5, 2) := by decide +kernel
theorem dX0_chooseCopy_20 : decode cX0_chooseCopy 20 = .ok (.iload 6, 2) := by decide +kernel
theorem dX0_chooseCopy_22 : decode cX0_chooseCopy 22 = .ok (.invokevirtual 48, 3) := by decide +kernel
theorem dX0_chooseCopy_25 : decode cX0_chooseCopy 25 = .ok (.iload 4, 2) := by decide +kernel
theorem dX0_chooseCopy_27 : decode cX0_chooseCopy 27 = .ok (.iload 5, 2) := by decide +kernel
theorem dX0_chooseCopy_29 : decode cX0_chooseCopy 29 = .ok (.isub, 1) := by decide +kernel
theorem dX0_chooseCopy_30 : decode cX0_chooseCopy 30 = .ok (.invokestatic 52, 3) := by decide +kernel
theorem dX0_chooseCopy_33 : decode cX0_chooseCopy 33 = .ok (.istore 7, 2) := by decide +kernel
theorem dX0_chooseCopy_35 : decode cX0_chooseCopy 35 = .ok (.iconst 2, 1) := by decide +kernel
theorem dX0_chooseCopy_36 : decode cX0_chooseCopy 36 = .ok (.istore 8, 2) := by decide +kernel
theorem dX0_chooseCopy_38 : decode cX0_chooseCopy 38 = .ok (.iload 8, 2) := by decide +kernel
theorem dX0_chooseCopy_40 : decode cX0_chooseCopy 40 = .ok (.iload 7, 2) := by decide +kernel
theorem dX0_chooseCopy_42 : decode cX0_chooseCopy 42 = .ok (.if_icmp .gt 43, 3) := by decide +kernel
theorem dX0_chooseCopy_45 : decode cX0_chooseCopy 45 = .ok (.iload 6, 2) := by decide +kernel
theorem dX0_chooseCopy_47 : decode cX0_chooseCopy 47 = .ok (.iload 8, 2) := by decide +kernel
theorem dX0_chooseCopy_49 : decode cX0_chooseCopy 49 = .ok (.invokestatic 57, 3) := by decide +kernel
theorem dX0_chooseCopy_52 : decode cX0_chooseCopy 52 = .ok (.istore 9, 2) := by decide +kernel
theorem dX0_chooseCopy_54 : decode cX0_chooseCopy 54 = .ok (.aload_n 0, 1) := by decide +kernel
theorem dX0_chooseCopy_55 : decode cX0_chooseCopy 55 = .ok (.iload 9, 2) := by decide +kernel
theorem dX0_chooseCopy_57 : decode cX0_chooseCopy 57 = .ok (.aload_n 2, 1) := by decide +kernel
theorem dX0_chooseCopy_58 : decode cX0_chooseCopy 58 = .ok (.iload 9, 2) := by decide +kernel
theorem dX0_chooseCopy_60 : decode cX0_chooseCopy 60 = .ok (.invokevirtual 62, 3) := by decide +kernel
theorem dX0_chooseCopy_63 : decode cX0_chooseCopy 63 = .ok (.aload_n 0, 1) := by decide +kernel
theorem dX0_chooseCopy_64 : decode cX0_chooseCopy 64 = .ok (.getfield 11, 3) := by decide +kernel
theorem dX0_chooseCopy_67 : decode cX0_chooseCopy 67 = .ok (.iload 5, 2) := by decide +kernel
theorem dX0_chooseCopy_69 : decode cX0_chooseCopy 69 = .ok (.iload 8, 2) := by decide +kernel
theorem dX0_chooseCopy_71 : decode cX0_chooseCopy 71 = .ok (.iadd, 1) := by decide +kernel
theorem dX0_chooseCopy_72 : decode cX0_chooseCopy 72 = .ok (.aaload, 1) := by decide +kernel
theorem dX0_chooseCopy_73 : decode cX0_chooseCopy 73 = .ok (.iload 6, 2) := by decide +kernel
theorem dX0_chooseCopy_75 : decode cX0_chooseCopy 75 = .ok (.iaload, 1) := by decide +kernel
theorem dX0_chooseCopy_76 : decode cX0_chooseCopy 76 = .ok (.invokevirtual 68, 3) := by decide +kernel
theorem dX0_chooseCopy_79 : decode cX0_chooseCopy 79 = .ok (.iinc 8 1, 3) := by decide +kernel
theorem dX0_chooseCopy_82 : decode cX0_chooseCopy 82 = .ok (.goto (-44), 3) := by decide +kernel
theorem dX0_chooseCopy_85 : decode cX0_chooseCopy 85 = .ok (.iinc 6 1, 3) := by decide +kernel
theorem dX0_chooseCopy_88 : decode cX0_chooseCopy 88 = .ok (.goto (-80), 3) := by decide +kernel
theorem dX0_chooseCopy_91 : decode cX0_chooseCopy 91 = .ok (.return_, 1) := by decide +kernel
theorem dX0_chooseFirsts_0 : decode cX0_chooseFirsts 0 = .ok (.aload_n 0, 1) := by decide +kernel
theorem dX0_chooseFirsts_1 : decode cX0_chooseFirsts 1 = .ok (.getfield 19, 3) := by decide +kernel
theorem dX0_chooseFirsts_4 : decode cX0_chooseFirsts 4 = .ok (.istore 6, 2) := by decide +kernel
theorem dX0_chooseFirsts_6 : decode cX0_chooseFirsts 6 = .ok (.aload_n 0, 1) := by decide +kernel
theorem dX0_chooseFirsts_7 : decode cX0_chooseFirsts 7 = .ok (.getfield 23, 3) := by decide +kernel
theorem dX0_chooseFirsts_10 : decode cX0_chooseFirsts 10 = .ok (.istore 7, 2) := by decide +kernel
theorem dX0_chooseFirsts_12 : decode cX0_chooseFirsts 12 = .ok (.aload_n 1, 1) := by decide +kernel
theorem dX0_chooseFirsts_13 : decode cX0_chooseFirsts 13 = .ok (.iload 5, 2) := by decide +kernel
theorem dX0_chooseFirsts_15 : decode cX0_chooseFirsts 15 = .ok (.invokevirtual 72, 3) := by decide +kernel
theorem dX0_chooseFirsts_18 : decode cX0_chooseFirsts 18 = .ok (.istore 8, 2) := by decide +kernel
theorem dX0_chooseFirsts_20 : decode cX0_chooseFirsts 20 = .ok (.iconst 0, 1) := by decide +kernel
theorem dX0_chooseFirsts_21 : decode cX0_chooseFirsts 21 = .ok (.istore 9, 2) := by decide +kernel
theorem dX0_chooseFirsts_23 : decode cX0_chooseFirsts 23 = .ok (.iload 9, 2) := by decide +kernel
theorem dX0_chooseFirsts_25 : decode cX0_chooseFirsts 25 = .ok (.iload 5, 2) := by decide +kernel
theorem dX0_chooseFirsts_27 : decode cX0_chooseFirsts 27 = .ok (.iload_n 3, 1) := by decide +kernel
theorem dX0_chooseFirsts_28 : decode cX0_chooseFirsts 28 = .ok (.isub, 1) := by decide +kernel
theorem dX0_chooseFirsts_29 : decode cX0_chooseFirsts 29 = .ok (.if_icmp .gt 174, 3) := by decide +kernel
theorem dX0_chooseFirsts_32 : decode cX0_chooseFirsts 32 = .ok (.aload_n 0, 1) := by decide +kernel
theorem dX0_chooseFirsts_33 : decode cX0_chooseFirsts 33 = .ok (.iconst (-1), 1) := by decide +kernel
theorem dX0_chooseFirsts_34 : decode cX0_chooseFirsts 34 = .ok (.putfield 19, 3) := by decide +kernel
theorem dX0_chooseFirsts_37 : decode cX0_chooseFirsts 37 = .ok (.aload_n 0, 1) := by decide +kernel
theorem dX0_chooseFirsts_38 : decode cX0_chooseFirsts 38 = .ok (.iload 8, 2) := by decide +kernel
theorem dX0_chooseFirsts_40 : decode cX0_chooseFirsts 40 = .ok (.aload_n 2, 1) := by decide +kernel
theorem dX0_chooseFirsts_41 : decode cX0_chooseFirsts 41 = .ok (.iload 8, 2) := by decide +kernel
theorem dX0_chooseFirsts_43 : decode cX0_chooseFirsts 43 = .ok (.invokevirtual 62, 3) := by decide +kernel
theorem dX0_chooseFirsts_46 : decode cX0_chooseFirsts 46 = .ok (.aload_n 0, 1) := by decide +kernel
theorem dX0_chooseFirsts_47 : decode cX0_chooseFirsts 47 = .ok (.getfield 11, 3) := by decide +kernel
theorem dX0_chooseFirsts_50 : decode cX0_chooseFirsts 50 = .ok (.iload 5, 2) := by decide +kernel
theorem dX0_chooseFirsts_52 : decode cX0_chooseFirsts 52 = .ok (.iconst 1, 1) := by decide +kernel
theorem dX0_chooseFirsts_53 : decode cX0_chooseFirsts 53 = .ok (.iadd, 1) := by decide +kernel
theorem dX0_chooseFirsts_54 : decode cX0_chooseFirsts 54 = .ok (.aaload, 1) := by decide +kernel
theorem dX0_chooseFirsts_55 : decode cX0_chooseFirsts 55 = .ok (.iload 9, 2) := by decide +kernel
theorem dX0_chooseFirsts_57 : decode cX0_chooseFirsts 57 = .ok (.iaload, 1) := by decide +kernel
theorem dX0_chooseFirsts_58 : decode cX0_chooseFirsts 58 = .ok (.invokevirtual 68, 3) := by decide +kernel
theorem dX0_chooseFirsts_61 : decode cX0_chooseFirsts 61 = .ok (.aload_n 1, 1) := by decide +kernel
theorem dX0_chooseFirsts_62 : decode cX0_chooseFirsts 62 = .ok (.iload 5, 2) := by decide +kernel
theorem dX0_chooseFirsts_64 : decode cX0_chooseFirsts 64 = .ok (.iload 9, 2) := by decide +kernel
theorem dX0_chooseFirsts_66 : decode cX0_chooseFirsts 66 = .ok (.invokevirtual 48, 3) := by decide +kernel
theorem dX0_chooseFirsts_69 : decode cX0_chooseFirsts 69 = .ok (.iload 4, 2) := by decide +kernel
theorem dX0_chooseFirsts_71 : decode cX0_chooseFirsts 71 = .ok (.iload 5, 2) := by decide +kernel
theorem dX0_chooseFirsts_73 : decode cX0_chooseFirsts 73 = .ok (.isub, 1) := by decide +kernel
theorem dX0_chooseFirsts_74 : decode cX0_chooseFirsts 74 = .ok (.invokestatic 52, 3) := by decide +kernel
theorem dX0_chooseFirsts_77 : decode cX0_chooseFirsts 77 = .ok (.istore 10, 2) := by decide +kernel
theorem dX0_chooseFirsts_79 : decode cX0_chooseFirsts 79 = .ok (.iconst 2, 1) := by decide +kernel
theorem dX0_chooseFirsts_80 : decode cX0_chooseFirsts 80 = .ok (.istore 11, 2) := by decide +kernel
theorem dX0_chooseFirsts_82 : decode cX0_chooseFirsts 82 = .ok (.iload 11, 2) := by decide +kernel
theorem dX0_chooseFirsts_84 : decode cX0_chooseFirsts 84 = .ok (.iload 10, 2) := by decide +kernel
theorem dX0_chooseFirsts_86 : decode cX0_chooseFirsts 86 = .ok (.if_icmp .gt 41, 3) := by decide +kernel
theorem dX0_chooseFirsts_89 : decode cX0_chooseFirsts 89 = .ok (.iload 11, 2) := by decide +kernel
theorem dX0_chooseFirsts_91 : decode cX0_chooseFirsts 91 = .ok (.invokestatic 75, 3) := by decide +kernel
theorem dX0_chooseFirsts_94 : decode cX0_chooseFirsts 94 = .ok (.istore 12, 2) := by decide +kernel
theorem dX0_chooseFirsts_96 : decode cX0_chooseFirsts 96 = .ok (.aload_n 0, 1) := by decide +kernel
theorem dX0_chooseFirsts_97 : decode cX0_chooseFirsts 97 = .ok (.iload 12, 2) := by decide +kernel
theorem dX0_chooseFirsts_99 : decode cX0_chooseFirsts 99 = .ok (.aload_n 2, 1) := by decide +kernel
theorem dX0_chooseFirsts_100 : decode cX0_chooseFirsts 100 = .ok (.iload 12, 2) := by decide +kernel
theorem dX0_chooseFirsts_102 : decode cX0_chooseFirsts 102 = .ok (.invokevirtual 62, 3) := by decide +kernel
theorem dX0_chooseFirsts_105 : decode cX0_chooseFirsts 105 = .ok (.aload_n 0, 1) := by decide +kernel
theorem dX0_chooseFirsts_106 : decode cX0_chooseFirsts 106 = .ok (.getfield 11, 3) := by decide +kernel
theorem dX0_chooseFirsts_109 : decode cX0_chooseFirsts 109 = .ok (.iload 5, 2) := by decide +kernel
theorem dX0_chooseFirsts_111 : decode cX0_chooseFirsts 111 = .ok (.iload 11, 2) := by decide +kernel
theorem dX0_chooseFirsts_113 : decode cX0_chooseFirsts 113 = .ok (.iadd, 1) := by decide +kernel
theorem dX0_chooseFirsts_114 : decode cX0_chooseFirsts 114 = .ok (.aaload, 1) := by decide +kernel
theorem dX0_chooseFirsts_115 : decode cX0_chooseFirsts 115 = .ok (.iload 9, 2) := by decide +kernel
theorem dX0_chooseFirsts_117 : decode cX0_chooseFirsts 117 = .ok (.iaload, 1) := by decide +kernel
theorem dX0_chooseFirsts_118 : decode cX0_chooseFirsts 118 = .ok (.invokevirtual 68, 3) := by decide +kernel
theorem dX0_chooseFirsts_121 : decode cX0_chooseFirsts 121 = .ok (.iinc 11 1, 3) := by decide +kernel
theorem dX0_chooseFirsts_124 : decode cX0_chooseFirsts 124 = .ok (.goto (-42), 3) := by decide +kernel
theorem dX0_chooseFirsts_127 : decode cX0_chooseFirsts 127 = .ok (.iload 6, 2) := by decide +kernel
theorem dX0_chooseFirsts_129 : decode cX0_chooseFirsts 129 = .ok (.iconst (-1), 1) := by decide +kernel
theorem dX0_chooseFirsts_130 : decode cX0_chooseFirsts 130 = .ok (.if_icmp .eq 16, 3) := by decide +kernel
theorem dX0_chooseFirsts_133 : decode cX0_chooseFirsts 133 = .ok (.iload 7, 2) := by decide +kernel
theorem dX0_chooseFirsts_135 : decode cX0_chooseFirsts 135 = .ok (.aload_n 0, 1) := by decide +kernel
theorem dX0_chooseFirsts_136 : decode cX0_chooseFirsts 136 = .ok (.getfield 23, 3) := by decide +kernel
theorem dX0_chooseFirsts_139 : decode cX0_chooseFirsts 139 = .ok (.if_icmp .ge 7, 3) := by decide +kernel
theorem dX0_chooseFirsts_142 : decode cX0_chooseFirsts 142 = .ok (.iconst 1, 1) := by decide +kernel
theorem dX0_chooseFirsts_143 : decode cX0_chooseFirsts 143 = .ok (.goto 4, 3) := by decide +kernel
theorem dX0_chooseFirsts_146 : decode cX0_chooseFirsts 146 = .ok (.iconst 0, 1) := by decide +kernel
theorem dX0_chooseFirsts_147 : decode cX0_chooseFirsts 147 = .ok (.istore 11, 2) := by decide +kernel
theorem dX0_chooseFirsts_149 : decode cX0_chooseFirsts 149 = .ok (.aload_n 0, 1) := by decide +kernel
theorem dX0_chooseFirsts_150 : decode cX0_chooseFirsts 150 = .ok (.getfield 16, 3) := by decide +kernel
theorem dX0_chooseFirsts_153 : decode cX0_chooseFirsts 153 = .ok (.iload 5, 2) := by decide +kernel
theorem dX0_chooseFirsts_155 : decode cX0_chooseFirsts 155 = .ok (.aaload, 1) := by decide +kernel
theorem dX0_chooseFirsts_156 : decode cX0_chooseFirsts 156 = .ok (.iload 9, 2) := by decide +kernel
theorem dX0_chooseFirsts_158 : decode cX0_chooseFirsts 158 = .ok (.iload 11, 2) := by decide +kernel
theorem dX0_chooseFirsts_160 : decode cX0_chooseFirsts 160 = .ok (.ifCond .eq 8, 3) := by decide +kernel
theorem dX0_chooseFirsts_163 : decode cX0_chooseFirsts 163 = .ok (.iload 6, 2) := by decide +kernel
theorem dX0_chooseFirsts_165 : decode cX0_chooseFirsts 165 = .ok (.goto 7, 3) := by decide +kernel
theorem dX0_chooseFirsts_168 : decode cX0_chooseFirsts 168 = .ok (.aload_n 0, 1) := by decide +kernel
theorem dX0_chooseFirsts_169 : decode cX0_chooseFirsts 169 = .ok (.getfield 19, 3) := by decide +kernel
theorem dX0_chooseFirsts_172 : decode cX0_chooseFirsts 172 = .ok (.iastore, 1) := by decide +kernel
theorem dX0_chooseFirsts_173 : decode cX0_chooseFirsts 173 = .ok (.aload_n 0, 1) := by decide +kernel
theorem dX0_chooseFirsts_174 : decode cX0_chooseFirsts 174 = .ok (.getfield 11, 3) := by decide +kernel
theorem dX0_chooseFirsts_177 : decode cX0_chooseFirsts 177 = .ok (.iload 5, 2) := by decide +kernel
theorem dX0_chooseFirsts_179 : decode cX0_chooseFirsts 179 = .ok (.aaload, 1) := by decide +kernel
theorem dX0_chooseFirsts_180 : decode cX0_chooseFirsts 180 = .ok (.iload 9, 2) := by decide +kernel
theorem dX0_chooseFirsts_182 : decode cX0_chooseFirsts 182 = .ok (.iload 11, 2) := by decide +kernel
theorem dX0_chooseFirsts_184 : decode cX0_chooseFirsts 184 = .ok (.ifCond .eq 8, 3) := by decide +kernel
theorem dX0_chooseFirsts_187 : decode cX0_chooseFirsts 187 = .ok (.iload 7, 2) := by decide +kernel
theorem dX0_chooseFirsts_189 : decode cX0_chooseFirsts 189 = .ok (.goto 7, 3) := by decide +kernel
theorem dX0_chooseFirsts_192 : decode cX0_chooseFirsts 192 = .ok (.aload_n 0, 1) := by decide +kernel
theorem dX0_chooseFirsts_193 : decode cX0_chooseFirsts 193 = .ok (.getfield 23, 3) := by decide +kernel
theorem dX0_chooseFirsts_196 : decode cX0_chooseFirsts 196 = .ok (.iastore, 1) := by decide +kernel
theorem dX0_chooseFirsts_197 : decode cX0_chooseFirsts 197 = .ok (.iinc 9 1, 3) := by decide +kernel
theorem dX0_chooseFirsts_200 : decode cX0_chooseFirsts 200 = .ok (.goto (-177), 3) := by decide +kernel
theorem dX0_chooseFirsts_203 : decode cX0_chooseFirsts 203 = .ok (.return_, 1) := by decide +kernel
theorem dX0_consider_0 : decode cX0_consider 0 = .ok (.bipush 32, 2) := by decide +kernel
theorem dX0_consider_2 : decode cX0_consider 2 = .ok (.iload_n 2, 1) := by decide +kernel
theorem dX0_consider_3 : decode cX0_consider 3 = .ok (.imul, 1) := by decide +kernel
theorem dX0_consider_4 : decode cX0_consider 4 = .ok (.iconst 1, 1) := by decide +kernel
theorem dX0_consider_5 : decode cX0_consider 5 = .ok (.iadd, 1) := by decide +kernel
theorem dX0_consider_6 : decode cX0_consider 6 = .ok (.iload_n 3, 1) := by decide +kernel
theorem dX0_consider_7 : decode cX0_consider 7 = .ok (.iadd, 1) := by decide +kernel
theorem dX0_consider_8 : decode cX0_consider 8 = .ok (.istore 4, 2) := by decide +kernel
theorem dX0_consider_10 : decode cX0_consider 10 = .ok (.aload_n 0, 1) := by decide +kernel
theorem dX0_consider_11 : decode cX0_consider 11 = .ok (.getfield 19, 3) := by decide +kernel
theorem dX0_consider_14 : decode cX0_consider 14 = .ok (.iconst (-1), 1) := by decide +kernel
theorem dX0_consider_15 : decode cX0_consider 15 = .ok (.if_icmp .eq 13, 3) := by decide +kernel
theorem dX0_consider_18 : decode cX0_consider 18 = .ok (.iload 4, 2) := by decide +kernel
theorem dX0_consider_20 : decode cX0_consider 20 = .ok (.aload_n 0, 1) := by decide +kernel
theorem dX0_consider_21 : decode cX0_consider 21 = .ok (.getfield 23, 3) := by decide +kernel
theorem dX0_consider_24 : decode cX0_consider 24 = .ok (.if_icmp .lt 4, 3) := by decide +kernel
theorem dX0_consider_27 : decode cX0_consider 27 = .ok (.return_, 1) := by decide +kernel
theorem dX0_consider_28 : decode cX0_consider 28 = .ok (.aload_n 0, 1) := by decide +kernel
theorem dX0_consider_29 : decode cX0_consider 29 = .ok (.iload_n 1, 1) := by decide +kernel
theorem dX0_consider_30 : decode cX0_consider 30 = .ok (.putfield 19, 3) := by decide +kernel
theorem dX0_consider_33 : decode cX0_consider 33 = .ok (.aload_n 0, 1) := by decide +kernel
theorem dX0_consider_34 : decode cX0_consider 34 = .ok (.iload 4, 2) := by decide +kernel
theorem dX0_consider_36 : decode cX0_consider 36 = .ok (.putfield 23, 3) := by decide +kernel
theorem dX0_consider_39 : decode cX0_consider 39 = .ok (.return_, 1) := by decide +kernel
theorem dX0_collect_0 : decode cX0_collect 0 = .ok (.iconst 0, 1) := by decide +kernel
theorem dX0_collect_1 : decode cX0_collect 1 = .ok (.istore 4, 2) := by decide +kernel
theorem dX0_collect_3 : decode cX0_collect 3 = .ok (.iload_n 1, 1) := by decide +kernel
theorem dX0_collect_4 : decode cX0_collect 4 = .ok (.istore 5, 2) := by decide +kernel
theorem dX0_collect_6 : decode cX0_collect 6 = .ok (.iload 5, 2) := by decide +kernel
theorem dX0_collect_8 : decode cX0_collect 8 = .ok (.iload_n 2, 1) := by decide +kernel
theorem dX0_collect_9 : decode cX0_collect 9 = .ok (.if_icmp .ge 58, 3) := by decide +kernel
theorem dX0_collect_12 : decode cX0_collect 12 = .ok (.aload_n 0, 1) := by decide +kernel
theorem dX0_collect_13 : decode cX0_collect 13 = .ok (.getfield 16, 3) := by decide +kernel
theorem dX0_collect_16 : decode cX0_collect 16 = .ok (.iload 5, 2) := by decide +kernel
theorem dX0_collect_18 : decode cX0_collect 18 = .ok (.aaload, 1) := by decide +kernel
theorem dX0_collect_19 : decode cX0_collect 19 = .ok (.iload 4, 2) := by decide +kernel
theorem dX0_collect_21 : decode cX0_collect 21 = .ok (.iaload, 1) := by decide +kernel
theorem dX0_collect_22 : decode cX0_collect 22 = .ok (.istore 6, 2) := by decide +kernel
theorem dX0_collect_24 : decode cX0_collect 24 = .ok (.aload_n 3, 1) := by decide +kernel
theorem dX0_collect_25 : decode cX0_collect 25 = .ok (.iload 6, 2) := by decide +kernel
theorem dX0_collect_27 : decode cX0_collect 27 = .ok (.invokevirtual 78, 3) := by decide +kernel
theorem dX0_collect_30 : decode cX0_collect 30 = .ok (.iload 6, 2) := by decide +kernel
theorem dX0_collect_32 : decode cX0_collect 32 = .ok (.invokestatic 82, 3) := by decide +kernel
theorem dX0_collect_35 : decode cX0_collect 35 = .ok (.ifCond .eq 15, 3) := by decide +kernel
theorem dX0_collect_38 : decode cX0_collect 38 = .ok (.bipush 24, 2) := by decide +kernel
theorem dX0_collect_40 : decode cX0_collect 40 = .ok (.iload 6, 2) := by decide +kernel
theorem dX0_collect_42 : decode cX0_collect 42 = .ok (.invokestatic 86, 3) := by decide +kernel
theorem dX0_collect_45 : decode cX0_collect 45 = .ok (.invokestatic 52, 3) := by decide +kernel
theorem dX0_collect_48 : decode cX0_collect 48 = .ok (.istore 4, 2) := by decide +kernel
theorem dX0_collect_50 : decode cX0_collect 50 = .ok (.iload 5, 2) := by decide +kernel
theorem dX0_collect_52 : decode cX0_collect 52 = .ok (.iconst 1, 1) := by decide +kernel
theorem dX0_collect_53 : decode cX0_collect 53 = .ok (.iload 6, 2) := by decide +kernel
theorem dX0_collect_55 : decode cX0_collect 55 = .ok (.invokestatic 89, 3) := by decide +kernel
theorem dX0_collect_58 : decode cX0_collect 58 = .ok (.invokestatic 92, 3) := by decide +kernel
theorem dX0_collect_61 : decode cX0_collect 61 = .ok (.iadd, 1) := by decide +kernel
theorem dX0_collect_62 : decode cX0_collect 62 = .ok (.istore 5, 2) := by decide +kernel
theorem dX0_collect_64 : decode cX0_collect 64 = .ok (.goto (-58), 3) := by decide +kernel
theorem dX0_collect_67 : decode cX0_collect 67 = .ok (.return_, 1) := by decide +kernel
theorem dX1_init_0 : decode cX1_init 0 = .ok (.aload_n 0, 1) := by decide +kernel
theorem dX1_init_1 : decode cX1_init 1 = .ok (.invokespecial 3, 3) := by decide +kernel
theorem dX1_init_4 : decode cX1_init 4 = .ok (.aload_n 0, 1) := by decide +kernel
theorem dX1_init_5 : decode cX1_init 5 = .ok (.bipush 24, 2) := by decide +kernel
theorem dX1_init_7 : decode cX1_init 7 = .ok (.newarray .int, 2) := by decide +kernel
theorem dX1_init_9 : decode cX1_init 9 = .ok (.putfield 9, 3) := by decide +kernel
theorem dX1_init_12 : decode cX1_init 12 = .ok (.aload_n 0, 1) := by decide +kernel
theorem dX1_init_13 : decode cX1_init 13 = .ok (.new 15, 3) := by decide +kernel
theorem dX1_init_16 : decode cX1_init 16 = .ok (.dup, 1) := by decide +kernel
theorem dX1_init_17 : decode cX1_init 17 = .ok (.invokespecial 17, 3) := by decide +kernel
theorem dX1_init_20 : decode cX1_init 20 = .ok (.putfield 18, 3) := by decide +kernel
theorem dX1_init_23 : decode cX1_init 23 = .ok (.aload_n 0, 1) := by decide +kernel
theorem dX1_init_24 : decode cX1_init 24 = .ok (.iconst 0, 1) := by decide +kernel
theorem dX1_init_25 : decode cX1_init 25 = .ok (.putfield 22, 3) := by decide +kernel
theorem dX1_init_28 : decode cX1_init 28 = .ok (.aload_n 0, 1) := by decide +kernel
theorem dX1_init_29 : decode cX1_init 29 = .ok (.iconst 0, 1) := by decide +kernel
theorem dX1_init_30 : decode cX1_init 30 = .ok (.putfield 26, 3) := by decide +kernel
theorem dX1_init_33 : decode cX1_init 33 = .ok (.aload_n 0, 1) := by decide +kernel
theorem dX1_init_34 : decode cX1_init 34 = .ok (.iconst 0, 1) := by decide +kernel
theorem dX1_init_35 : decode cX1_init 35 = .ok (.putfield 29, 3) := by decide +kernel
theorem dX1_init_38 : decode cX1_init 38 = .ok (.aload_n 0, 1) := by decide +kernel
theorem dX1_init_39 : decode cX1_init 39 = .ok (.iconst 0, 1) := by decide +kernel
theorem dX1_init_40 : decode cX1_init 40 = .ok (.putfield 32, 3) := by decide +kernel
theorem dX1_init_43 : decode cX1_init 43 = .ok (.aload_n 0, 1) := by decide +kernel
theorem dX1_init_44 : decode cX1_init 44 = .ok (.iconst 0, 1) := by decide +kernel
theorem dX1_init_45 : decode cX1_init 45 = .ok (.putfield 36, 3) := by decide +kernel
theorem dX1_init_48 : decode cX1_init 48 = .ok (.aload_n 0, 1) := by decide +kernel
theorem dX1_init_49 : decode cX1_init 49 = .ok (.iconst 0, 1) := by decide +kernel
theorem dX1_init_50 : decode cX1_init 50 = .ok (.putfield 39, 3) := by decide +kernel
theorem dX1_init_53 : decode cX1_init 53 = .ok (.return_, 1) := by decide +kernel
theorem dX1_read_0 : decode cX1_read 0 = .ok (.aload_n 0, 1) := by decide +kernel
theorem dX1_read_1 : decode cX1_read 1 = .ok (.getfield 18, 3) := by decide +kernel
theorem dX1_read_4 : decode cX1_read 4 = .ok (.invokevirtual 42, 3) := by decide +kernel
theorem dX1_read_7 : decode cX1_read 7 = .ok (.aload_n 0, 1) := by decide +kernel
theorem dX1_read_8 : decode cX1_read 8 = .ok (.iconst 0, 1) := by decide +kernel
theorem dX1_read_9 : decode cX1_read 9 = .ok (.putfield 22, 3) := by decide +kernel
theorem dX1_read_12 : decode cX1_read 12 = .ok (.aload_n 0, 1) := by decide +kernel
theorem dX1_read_13 : decode cX1_read 13 = .ok (.iconst 0, 1) := by decide +kernel
theorem dX1_read_14 : decode cX1_read 14 = .ok (.putfield 26, 3) := by decide +kernel
theorem dX1_read_17 : decode cX1_read 17 = .ok (.aload_n 0, 1) := by decide +kernel
theorem dX1_read_18 : decode cX1_read 18 = .ok (.iconst 0, 1) := by decide +kernel
theorem dX1_read_19 : decode cX1_read 19 = .ok (.putfield 29, 3) := by decide +kernel
theorem dX1_read_22 : decode cX1_read 22 = .ok (.aload_n 0, 1) := by decide +kernel
theorem dX1_read_23 : decode cX1_read 23 = .ok (.iconst 0, 1) := by decide +kernel
theorem dX1_read_24 : decode cX1_read 24 = .ok (.putfield 32, 3) := by decide +kernel
theorem dX1_read_27 : decode cX1_read 27 = .ok (.aload_n 0, 1) := by decide +kernel
theorem dX1_read_28 : decode cX1_read 28 = .ok (.iconst 0, 1) := by decide +kernel
theorem dX1_read_29 : decode cX1_read 29 = .ok (.putfield 36, 3) := by decide +kernel
theorem dX1_read_32 : decode cX1_read 32 = .ok (.aload_n 0, 1) := by decide +kernel
theorem dX1_read_33 : decode cX1_read 33 = .ok (.iconst 1, 1) := by decide +kernel
theorem dX1_read_34 : decode cX1_read 34 = .ok (.putfield 39, 3) := by decide +kernel
theorem dX1_read_37 : decode cX1_read 37 = .ok (.aload_n 0, 1) := by decide +kernel
theorem dX1_read_38 : decode cX1_read 38 = .ok (.getfield 39, 3) := by decide +kernel
theorem dX1_read_41 : decode cX1_read 41 = .ok (.ifCond .eq 50, 3) := by decide +kernel
theorem dX1_read_44 : decode cX1_read 44 = .ok (.aload_n 0, 1) := by decide +kernel
theorem dX1_read_45 : decode cX1_read 45 = .ok (.getfield 36, 3) := by decide +kernel
theorem dX1_read_48 : decode cX1_read 48 = .ok (.aload_n 1, 1) := by decide +kernel
theorem dX1_read_49 : decode cX1_read 49 = .ok (.invokevirtual 45, 3) := by decide +kernel
theorem dX1_read_52 : decode cX1_read 52 = .ok (.if_icmp .ge 39, 3) := by decide +kernel
theorem dX1_read_55 : decode cX1_read 55 = .ok (.aload_n 0, 1) := by decide +kernel
theorem dX1_read_56 : decode cX1_read 56 = .ok (.aload_n 1, 1) := by decide +kernel
theorem dX1_read_57 : decode cX1_read 57 = .ok (.aload_n 0, 1) := by decide +kernel
theorem dX1_read_58 : decode cX1_read 58 = .ok (.getfield 36, 3) := by decide +kernel
theorem dX1_read_61 : decode cX1_read 61 = .ok (.invokevirtual 51, 3) := by decide +kernel
theorem dX1_read_64 : decode cX1_read 64 = .ok (.invokevirtual 55, 3) := by decide +kernel
theorem dX1_read_67 : decode cX1_read 67 = .ok (.ifCond .eq 16, 3) := by decide +kernel
theorem dX1_read_70 : decode cX1_read 70 = .ok (.aload_n 0, 1) := by decide +kernel
theorem dX1_read_71 : decode cX1_read 71 = .ok (.dup, 1) := by decide +kernel
theorem dX1_read_72 : decode cX1_read 72 = .ok (.getfield 36, 3) := by decide +kernel
theorem dX1_read_75 : decode cX1_read 75 = .ok (.iconst 1, 1) := by decide +kernel
theorem dX1_read_76 : decode cX1_read 76 = .ok (.iadd, 1) := by decide +kernel
theorem dX1_read_77 : decode cX1_read 77 = .ok (.putfield 36, 3) := by decide +kernel
theorem dX1_read_80 : decode cX1_read 80 = .ok (.goto (-43), 3) := by decide +kernel
theorem dX1_read_83 : decode cX1_read 83 = .ok (.aload_n 0, 1) := by decide +kernel
theorem dX1_read_84 : decode cX1_read 84 = .ok (.iconst 0, 1) := by decide +kernel
theorem dX1_read_85 : decode cX1_read 85 = .ok (.putfield 39, 3) := by decide +kernel
theorem dX1_read_88 : decode cX1_read 88 = .ok (.goto (-51), 3) := by decide +kernel
theorem dX1_read_91 : decode cX1_read 91 = .ok (.return_, 1) := by decide +kernel
theorem dX1_faultPlace_0 : decode cX1_faultPlace 0 = .ok (.aload_n 0, 1) := by decide +kernel
theorem dX1_faultPlace_1 : decode cX1_faultPlace 1 = .ok (.getfield 36, 3) := by decide +kernel
theorem dX1_faultPlace_4 : decode cX1_faultPlace 4 = .ok (.ireturn, 1) := by decide +kernel
theorem dX1_isCode_0 : decode cX1_isCode 0 = .ok (.aload_n 0, 1) := by decide +kernel
theorem dX1_isCode_1 : decode cX1_isCode 1 = .ok (.getfield 39, 3) := by decide +kernel
theorem dX1_isCode_4 : decode cX1_isCode 4 = .ok (.ifCond .eq 24, 3) := by decide +kernel
theorem dX1_isCode_7 : decode cX1_isCode 7 = .ok (.aload_n 0, 1) := by decide +kernel
theorem dX1_isCode_8 : decode cX1_isCode 8 = .ok (.getfield 29, 3) := by decide +kernel
theorem dX1_isCode_11 : decode cX1_isCode 11 = .ok (.ifCond .ne 17, 3) := by decide +kernel
theorem dX1_isCode_14 : decode cX1_isCode 14 = .ok (.aload_n 0, 1) := by decide +kernel
theorem dX1_isCode_15 : decode cX1_isCode 15 = .ok (.getfield 18, 3) := by decide +kernel
theorem dX1_isCode_18 : decode cX1_isCode 18 = .ok (.invokevirtual 59, 3) := by decide +kernel
theorem dX1_isCode_21 : decode cX1_isCode 21 = .ok (.ifCond .le 7, 3) := by decide +kernel
theorem dX1_isCode_24 : decode cX1_isCode 24 = .ok (.iconst 1, 1) := by decide +kernel
theorem dX1_isCode_25 : decode cX1_isCode 25 = .ok (.goto 4, 3) := by decide +kernel
theorem dX1_isCode_28 : decode cX1_isCode 28 = .ok (.iconst 0, 1) := by decide +kernel
theorem dX1_isCode_29 : decode cX1_isCode 29 = .ok (.ireturn, 1) := by decide +kernel
theorem dX1_tokens_0 : decode cX1_tokens 0 = .ok (.aload_n 0, 1) := by decide +kernel
theorem dX1_tokens_1 : decode cX1_tokens 1 = .ok (.getfield 18, 3) := by decide +kernel
theorem dX1_tokens_4 : decode cX1_tokens 4 = .ok (.areturn, 1) := by decide +kernel
theorem dX1_madeSize_0 : decode cX1_madeSize 0 = .ok (.aload_n 0, 1) := by decide +kernel
theorem dX1_madeSize_1 : decode cX1_madeSize 1 = .ok (.getfield 22, 3) := by decide +kernel
theorem dX1_madeSize_4 : decode cX1_madeSize 4 = .ok (.ireturn, 1) := by decide +kernel
theorem dX1_madeAt_0 : decode cX1_madeAt 0 = .ok (.iload_n 1, 1) := by decide +kernel
theorem dX1_madeAt_1 : decode cX1_madeAt 1 = .ok (.ifCond .lt 20, 3) := by decide +kernel
theorem dX1_madeAt_4 : decode cX1_madeAt 4 = .ok (.iload_n 1, 1) := by decide +kernel
theorem dX1_madeAt_5 : decode cX1_madeAt 5 = .ok (.aload_n 0, 1) := by decide +kernel
theorem dX1_madeAt_6 : decode cX1_madeAt 6 = .ok (.getfield 22, 3) := by decide +kernel
theorem dX1_madeAt_9 : decode cX1_madeAt 9 = .ok (.if_icmp .ge 12, 3) := by decide +kernel
theorem dX1_madeAt_12 : decode cX1_madeAt 12 = .ok (.aload_n 0, 1) := by decide +kernel
theorem dX1_madeAt_13 : decode cX1_madeAt 13 = .ok (.getfield 9, 3) := by decide +kernel
theorem dX1_madeAt_16 : decode cX1_madeAt 16 = .ok (.iload_n 1, 1) := by decide +kernel
theorem dX1_madeAt_17 : decode cX1_madeAt 17 = .ok (.iaload, 1) := by decide +kernel
theorem dX1_madeAt_18 : decode cX1_madeAt 18 = .ok (.goto 4, 3) := by decide +kernel
theorem dX1_madeAt_21 : decode cX1_madeAt 21 = .ok (.iconst 0, 1) := by decide +kernel
theorem dX1_madeAt_22 : decode cX1_madeAt 22 = .ok (.ireturn, 1) := by decide +kernel
theorem dX1_takes_0 : decode cX1_takes 0 = .ok (.aload_n 0, 1) := by decide +kernel
theorem dX1_takes_1 : decode cX1_takes 1 = .ok (.getfield 29, 3) := by decide +kernel
theorem dX1_takes_4 : decode cX1_takes 4 = .ok (.ifCond .le 12, 3) := by decide +kernel
theorem dX1_takes_7 : decode cX1_takes 7 = .ok (.aload_n 0, 1) := by decide +kernel
theorem dX1_takes_8 : decode cX1_takes 8 = .ok (.iload_n 1, 1) := by decide +kernel
theorem dX1_takes_9 : decode cX1_takes 9 = .ok (.bipush 48, 2) := by decide +kernel
theorem dX1_takes_11 : decode cX1_takes 11 = .ok (.isub, 1) := by decide +kernel
theorem dX1_takes_12 : decode cX1_takes 12 = .ok (.invokevirtual 60, 3) := by decide +kernel
theorem dX1_takes_15 : decode cX1_takes 15 = .ok (.ireturn, 1) := by decide +kernel
theorem dX1_takes_16 : decode cX1_takes 16 = .ok (.iload_n 1, 1) := by decide +kernel
theorem dX1_takes_17 : decode cX1_takes 17 = .ok (.bipush 97, 2) := by decide +kernel
theorem dX1_takes_19 : decode cX1_takes 19 = .ok (.isub, 1) := by decide +kernel
theorem dX1_takes_20 : decode cX1_takes 20 = .ok (.istore_n 2, 1) := by decide +kernel
theorem dX1_takes_21 : decode cX1_takes 21 = .ok (.iload_n 2, 1) := by decide +kernel
theorem dX1_takes_22 : decode cX1_takes 22 = .ok (.ifCond .lt 14, 3) := by decide +kernel
theorem dX1_takes_25 : decode cX1_takes 25 = .ok (.iload_n 2, 1) := by decide +kernel
theorem dX1_takes_26 : decode cX1_takes 26 = .ok (.iconst 4, 1) := by decide +kernel
theorem dX1_takes_27 : decode cX1_takes 27 = .ok (.if_icmp .ge 9, 3) := by decide +kernel
theorem dX1_takes_30 : decode cX1_takes 30 = .ok (.aload_n 0, 1) := by decide +kernel
theorem dX1_takes_31 : decode cX1_takes 31 = .ok (.iload_n 2, 1) := by decide +kernel
theorem dX1_takes_32 : decode cX1_takes 32 = .ok (.invokevirtual 63, 3) := by decide +kernel
theorem dX1_takes_35 : decode cX1_takes 35 = .ok (.ireturn, 1) := by decide +kernel
theorem dX1_takes_36 : decode cX1_takes 36 = .ok (.aload_n 0, 1) := by decide +kernel
theorem dX1_takes_37 : decode cX1_takes 37 = .ok (.iload_n 1, 1) := by decide +kernel
theorem dX1_takes_38 : decode cX1_takes 38 = .ok (.bipush 61, 2) := by decide +kernel
theorem dX1_takes_40 : decode cX1_takes 40 = .ok (.if_icmp .ne 7, 3) := by decide +kernel
theorem dX1_takes_43 : decode cX1_takes 43 = .ok (.iconst 1, 1) := by decide +kernel
theorem dX1_takes_44 : decode cX1_takes 44 = .ok (.goto 4, 3) := by decide +kernel
theorem dX1_takes_47 : decode cX1_takes 47 = .ok (.iconst 0, 1) := by decide +kernel
theorem dX1_takes_48 : decode cX1_takes 48 = .ok (.putfield 32, 3) := by decide +kernel
theorem dX1_takes_51 : decode cX1_takes 51 = .ok (.aload_n 0, 1) := by decide +kernel
theorem dX1_takes_52 : decode cX1_takes 52 = .ok (.aload_n 0, 1) := by decide +kernel
theorem dX1_takes_53 : decode cX1_takes 53 = .ok (.getfield 32, 3) := by decide +kernel
theorem dX1_takes_56 : decode cX1_takes 56 = .ok (.ifCond .eq 10, 3) := by decide +kernel
theorem dX1_takes_59 : decode cX1_takes 59 = .ok (.aload_n 0, 1) := by decide +kernel
theorem dX1_takes_60 : decode cX1_takes 60 = .ok (.getfield 26, 3) := by decide +kernel
theorem dX1_takes_63 : decode cX1_takes 63 = .ok (.goto 9, 3) := by decide +kernel
theorem dX1_takes_66 : decode cX1_takes 66 = .ok (.iload_n 1, 1) := by decide +kernel
theorem dX1_takes_67 : decode cX1_takes 67 = .ok (.bipush 65, 2) := by decide +kernel
theorem dX1_takes_69 : decode cX1_takes 69 = .ok (.isub, 1) := by decide +kernel
theorem dX1_takes_70 : decode cX1_takes 70 = .ok (.iconst 1, 1) := by decide +kernel
theorem dX1_takes_71 : decode cX1_takes 71 = .ok (.iadd, 1) := by decide +kernel
theorem dX1_takes_72 : decode cX1_takes 72 = .ok (.invokevirtual 66, 3) := by decide +kernel
theorem dX1_takes_75 : decode cX1_takes 75 = .ok (.ireturn, 1) := by decide +kernel
theorem dX1_takesLetter_0 : decode cX1_takesLetter 0 = .ok (.aload_n 0, 1) := by decide +kernel
theorem dX1_takesLetter_1 : decode cX1_takesLetter 1 = .ok (.getfield 22, 3) := by decide +kernel
theorem dX1_takesLetter_4 : decode cX1_takesLetter 4 = .ok (.bipush 24, 2) := by decide +kernel
theorem dX1_takesLetter_6 : decode cX1_takesLetter 6 = .ok (.if_icmp .lt 5, 3) := by decide +kernel
theorem dX1_takesLetter_9 : decode cX1_takesLetter 9 = .ok (.iconst 0, 1) := by decide +kernel
theorem dX1_takesLetter_10 : decode cX1_takesLetter 10 = .ok (.ireturn, 1) := by decide +kernel
theorem dX1_takesLetter_11 : decode cX1_takesLetter 11 = .ok (.aload_n 0, 1) := by decide +kernel
theorem dX1_takesLetter_12 : decode cX1_takesLetter 12 = .ok (.iload_n 1, 1) := by decide +kernel
theorem dX1_takesLetter_13 : decode cX1_takesLetter 13 = .ok (.invokevirtual 69, 3) := by decide +kernel
theorem dX1_takesLetter_16 : decode cX1_takesLetter 16 = .ok (.aload_n 0, 1) := by decide +kernel
theorem dX1_takesLetter_17 : decode cX1_takesLetter 17 = .ok (.getfield 18, 3) := by decide +kernel
theorem dX1_takesLetter_20 : decode cX1_takesLetter 20 = .ok (.iload_n 1, 1) := by decide +kernel
theorem dX1_takesLetter_21 : decode cX1_takesLetter 21 = .ok (.invokevirtual 73, 3) := by decide +kernel
theorem dX1_takesLetter_24 : decode cX1_takesLetter 24 = .ok (.iconst 1, 1) := by decide +kernel
theorem dX1_takesLetter_25 : decode cX1_takesLetter 25 = .ok (.ireturn, 1) := by decide +kernel
theorem dX1_opens_0 : decode cX1_opens 0 = .ok (.iload_n 1, 1) := by decide +kernel
theorem dX1_opens_1 : decode cX1_opens 1 = .ok (.iconst 1, 1) := by decide +kernel
theorem dX1_opens_2 : decode cX1_opens 2 = .ok (.if_icmp .lt 17, 3) := by decide +kernel
theorem dX1_opens_5 : decode cX1_opens 5 = .ok (.iload_n 1, 1) := by decide +kernel
theorem dX1_opens_6 : decode cX1_opens 6 = .ok (.bipush 24, 2) := by decide +kernel
theorem dX1_opens_8 : decode cX1_opens 8 = .ok (.if_icmp .gt 11, 3) := by decide +kernel
theorem dX1_opens_11 : decode cX1_opens 11 = .ok (.iload_n 1, 1) := by decide +kernel
theorem dX1_opens_12 : decode cX1_opens 12 = .ok (.aload_n 0, 1) := by decide +kernel
theorem dX1_opens_13 : decode cX1_opens 13 = .ok (.getfield 22, 3) := by decide +kernel
theorem dX1_opens_16 : decode cX1_opens 16 = .ok (.if_icmp .le 5, 3) := by decide +kernel
theorem dX1_opens_19 : decode cX1_opens 19 = .ok (.iconst 0, 1) := by decide +kernel
theorem dX1_opens_20 : decode cX1_opens 20 = .ok (.ireturn, 1) := by decide +kernel
theorem dX1_opens_21 : decode cX1_opens 21 = .ok (.aload_n 0, 1) := by decide +kernel
theorem dX1_opens_22 : decode cX1_opens 22 = .ok (.iload_n 1, 1) := by decide +kernel
theorem dX1_opens_23 : decode cX1_opens 23 = .ok (.putfield 29, 3) := by decide +kernel
theorem dX1_opens_26 : decode cX1_opens 26 = .ok (.iconst 1, 1) := by decide +kernel
theorem dX1_opens_27 : decode cX1_opens 27 = .ok (.ireturn, 1) := by decide +kernel
theorem dX1_takesFigure_0 : decode cX1_takesFigure 0 = .ok (.iload_n 1, 1) := by decide +kernel
theorem dX1_takesFigure_1 : decode cX1_takesFigure 1 = .ok (.iconst 2, 1) := by decide +kernel
theorem dX1_takesFigure_2 : decode cX1_takesFigure 2 = .ok (.if_icmp .lt 20, 3) := by decide +kernel
theorem dX1_takesFigure_5 : decode cX1_takesFigure 5 = .ok (.iload_n 1, 1) := by decide +kernel
theorem dX1_takesFigure_6 : decode cX1_takesFigure 6 = .ok (.bipush 8, 2) := by decide +kernel
theorem dX1_takesFigure_8 : decode cX1_takesFigure 8 = .ok (.if_icmp .gt 14, 3) := by decide +kernel
theorem dX1_takesFigure_11 : decode cX1_takesFigure 11 = .ok (.aload_n 0, 1) := by decide +kernel
theorem dX1_takesFigure_12 : decode cX1_takesFigure 12 = .ok (.getfield 22, 3) := by decide +kernel
theorem dX1_takesFigure_15 : decode cX1_takesFigure 15 = .ok (.iload_n 1, 1) := by decide +kernel
theorem dX1_takesFigure_16 : decode cX1_takesFigure 16 = .ok (.iadd, 1) := by decide +kernel
theorem dX1_takesFigure_17 : decode cX1_takesFigure 17 = .ok (.bipush 24, 2) := by decide +kernel
theorem dX1_takesFigure_19 : decode cX1_takesFigure 19 = .ok (.if_icmp .le 5, 3) := by decide +kernel
theorem dX1_takesFigure_22 : decode cX1_takesFigure 22 = .ok (.iconst 0, 1) := by decide +kernel
theorem dX1_takesFigure_23 : decode cX1_takesFigure 23 = .ok (.ireturn, 1) := by decide +kernel
theorem dX1_takesFigure_24 : decode cX1_takesFigure 24 = .ok (.aload_n 0, 1) := by decide +kernel
theorem dX1_takesFigure_25 : decode cX1_takesFigure 25 = .ok (.getfield 18, 3) := by decide +kernel
theorem dX1_takesFigure_28 : decode cX1_takesFigure 28 = .ok (.aload_n 0, 1) := by decide +kernel
theorem dX1_takesFigure_29 : decode cX1_takesFigure 29 = .ok (.getfield 32, 3) := by decide +kernel
theorem dX1_takesFigure_32 : decode cX1_takesFigure 32 = .ok (.ifCond .eq 10, 3) := by decide +kernel
theorem dX1_takesFigure_35 : decode cX1_takesFigure 35 = .ok (.iload_n 1, 1) := by decide +kernel
theorem dX1_takesFigure_36 : decode cX1_takesFigure 36 = .ok (.invokestatic 76, 3) := by decide +kernel
theorem dX1_takesFigure_39 : decode cX1_takesFigure 39 = .ok (.goto 11, 3) := by decide +kernel
theorem dX1_takesFigure_42 : decode cX1_takesFigure 42 = .ok (.aload_n 0, 1) := by decide +kernel
theorem dX1_takesFigure_43 : decode cX1_takesFigure 43 = .ok (.getfield 29, 3) := by decide +kernel
theorem dX1_takesFigure_46 : decode cX1_takesFigure 46 = .ok (.iload_n 1, 1) := by decide +kernel
theorem dX1_takesFigure_47 : decode cX1_takesFigure 47 = .ok (.invokestatic 81, 3) := by decide +kernel
theorem dX1_takesFigure_50 : decode cX1_takesFigure 50 = .ok (.invokevirtual 73, 3) := by decide +kernel
theorem dX1_takesFigure_53 : decode cX1_takesFigure 53 = .ok (.iconst 0, 1) := by decide +kernel
theorem dX1_takesFigure_54 : decode cX1_takesFigure 54 = .ok (.istore_n 2, 1) := by decide +kernel
theorem dX1_takesFigure_55 : decode cX1_takesFigure 55 = .ok (.iload_n 2, 1) := by decide +kernel
theorem dX1_takesFigure_56 : decode cX1_takesFigure 56 = .ok (.iload_n 1, 1) := by decide +kernel
theorem dX1_takesFigure_57 : decode cX1_takesFigure 57 = .ok (.if_icmp .ge 26, 3) := by decide +kernel
theorem dX1_takesFigure_60 : decode cX1_takesFigure 60 = .ok (.aload_n 0, 1) := by decide +kernel
theorem dX1_takesFigure_61 : decode cX1_takesFigure 61 = .ok (.aload_n 0, 1) := by decide +kernel
theorem dX1_takesFigure_62 : decode cX1_takesFigure 62 = .ok (.aload_n 0, 1) := by decide +kernel
theorem dX1_takesFigure_63 : decode cX1_takesFigure 63 = .ok (.getfield 22, 3) := by decide +kernel
theorem dX1_takesFigure_66 : decode cX1_takesFigure 66 = .ok (.aload_n 0, 1) := by decide +kernel
theorem dX1_takesFigure_67 : decode cX1_takesFigure 67 = .ok (.getfield 29, 3) := by decide +kernel
theorem dX1_takesFigure_70 : decode cX1_takesFigure 70 = .ok (.isub, 1) := by decide +kernel
theorem dX1_takesFigure_71 : decode cX1_takesFigure 71 = .ok (.invokevirtual 85, 3) := by decide +kernel
theorem dX1_takesFigure_74 : decode cX1_takesFigure 74 = .ok (.invokevirtual 69, 3) := by decide +kernel
theorem dX1_takesFigure_77 : decode cX1_takesFigure 77 = .ok (.iinc 2 1, 3) := by decide +kernel
theorem dX1_takesFigure_80 : decode cX1_takesFigure 80 = .ok (.goto (-25), 3) := by decide +kernel
theorem dX1_takesFigure_83 : decode cX1_takesFigure 83 = .ok (.aload_n 0, 1) := by decide +kernel
theorem dX1_takesFigure_84 : decode cX1_takesFigure 84 = .ok (.aload_n 0, 1) := by decide +kernel
theorem dX1_takesFigure_85 : decode cX1_takesFigure 85 = .ok (.getfield 29, 3) := by decide +kernel
theorem dX1_takesFigure_88 : decode cX1_takesFigure 88 = .ok (.putfield 26, 3) := by decide +kernel
theorem dX1_takesFigure_91 : decode cX1_takesFigure 91 = .ok (.aload_n 0, 1) := by decide +kernel
theorem dX1_takesFigure_92 : decode cX1_takesFigure 92 = .ok (.iconst 0, 1) := by decide +kernel
theorem dX1_takesFigure_93 : decode cX1_takesFigure 93 = .ok (.putfield 29, 3) := by decide +kernel
theorem dX1_takesFigure_96 : decode cX1_takesFigure 96 = .ok (.iconst 1, 1) := by decide +kernel
theorem dX1_takesFigure_97 : decode cX1_takesFigure 97 = .ok (.ireturn, 1) := by decide +kernel
theorem dX1_make_0 : decode cX1_make 0 = .ok (.aload_n 0, 1) := by decide +kernel
theorem dX1_make_1 : decode cX1_make 1 = .ok (.getfield 22, 3) := by decide +kernel
theorem dX1_make_4 : decode cX1_make 4 = .ok (.bipush 24, 2) := by decide +kernel
theorem dX1_make_6 : decode cX1_make 6 = .ok (.if_icmp .lt 4, 3) := by decide +kernel
theorem dX1_make_9 : decode cX1_make 9 = .ok (.return_, 1) := by decide +kernel
theorem dX1_make_10 : decode cX1_make 10 = .ok (.aload_n 0, 1) := by decide +kernel
theorem dX1_make_11 : decode cX1_make 11 = .ok (.getfield 9, 3) := by decide +kernel
theorem dX1_make_14 : decode cX1_make 14 = .ok (.aload_n 0, 1) := by decide +kernel
theorem dX1_make_15 : decode cX1_make 15 = .ok (.getfield 22, 3) := by decide +kernel
theorem dX1_make_18 : decode cX1_make 18 = .ok (.iload_n 1, 1) := by decide +kernel
theorem dX1_make_19 : decode cX1_make 19 = .ok (.iastore, 1) := by decide +kernel
theorem dX1_make_20 : decode cX1_make 20 = .ok (.aload_n 0, 1) := by decide +kernel
theorem dX1_make_21 : decode cX1_make 21 = .ok (.dup, 1) := by decide +kernel
theorem dX1_make_22 : decode cX1_make 22 = .ok (.getfield 22, 3) := by decide +kernel
theorem dX1_make_25 : decode cX1_make 25 = .ok (.iconst 1, 1) := by decide +kernel
theorem dX1_make_26 : decode cX1_make 26 = .ok (.iadd, 1) := by decide +kernel
theorem dX1_make_27 : decode cX1_make 27 = .ok (.putfield 22, 3) := by decide +kernel
theorem dX1_make_30 : decode cX1_make 30 = .ok (.return_, 1) := by decide +kernel
theorem dX2_init_0 : decode cX2_init 0 = .ok (.aload_n 0, 1) := by decide +kernel
theorem dX2_init_1 : decode cX2_init 1 = .ok (.invokespecial 3, 3) := by decide +kernel
theorem dX2_init_4 : decode cX2_init 4 = .ok (.aload_n 0, 1) := by decide +kernel
theorem dX2_init_5 : decode cX2_init 5 = .ok (.bipush 30, 2) := by decide +kernel
theorem dX2_init_7 : decode cX2_init 7 = .ok (.newarray .int, 2) := by decide +kernel
theorem dX2_init_9 : decode cX2_init 9 = .ok (.putfield 9, 3) := by decide +kernel
theorem dX2_init_12 : decode cX2_init 12 = .ok (.aload_n 0, 1) := by decide +kernel
theorem dX2_init_13 : decode cX2_init 13 = .ok (.iconst 0, 1) := by decide +kernel
theorem dX2_init_14 : decode cX2_init 14 = .ok (.putfield 15, 3) := by decide +kernel
theorem dX2_init_17 : decode cX2_init 17 = .ok (.return_, 1) := by decide +kernel
theorem dX2_isFull_0 : decode cX2_isFull 0 = .ok (.aload_n 0, 1) := by decide +kernel
theorem dX2_isFull_1 : decode cX2_isFull 1 = .ok (.getfield 15, 3) := by decide +kernel
theorem dX2_isFull_4 : decode cX2_isFull 4 = .ok (.bipush 30, 2) := by decide +kernel
theorem dX2_isFull_6 : decode cX2_isFull 6 = .ok (.if_icmp .lt 7, 3) := by decide +kernel
theorem dX2_isFull_9 : decode cX2_isFull 9 = .ok (.iconst 1, 1) := by decide +kernel
theorem dX2_isFull_10 : decode cX2_isFull 10 = .ok (.goto 4, 3) := by decide +kernel
theorem dX2_isFull_13 : decode cX2_isFull 13 = .ok (.iconst 0, 1) := by decide +kernel
theorem dX2_isFull_14 : decode cX2_isFull 14 = .ok (.ireturn, 1) := by decide +kernel
theorem dX2_size_0 : decode cX2_size 0 = .ok (.aload_n 0, 1) := by decide +kernel
theorem dX2_size_1 : decode cX2_size 1 = .ok (.getfield 15, 3) := by decide +kernel
theorem dX2_size_4 : decode cX2_size 4 = .ok (.ireturn, 1) := by decide +kernel
theorem dX2_clear_0 : decode cX2_clear 0 = .ok (.aload_n 0, 1) := by decide +kernel
theorem dX2_clear_1 : decode cX2_clear 1 = .ok (.iconst 0, 1) := by decide +kernel
theorem dX2_clear_2 : decode cX2_clear 2 = .ok (.putfield 15, 3) := by decide +kernel
theorem dX2_clear_5 : decode cX2_clear 5 = .ok (.return_, 1) := by decide +kernel
theorem dX2_add_0 : decode cX2_add 0 = .ok (.aload_n 0, 1) := by decide +kernel
theorem dX2_add_1 : decode cX2_add 1 = .ok (.invokevirtual 19, 3) := by decide +kernel
theorem dX2_add_4 : decode cX2_add 4 = .ok (.ifCond .eq 4, 3) := by decide +kernel
theorem dX2_add_7 : decode cX2_add 7 = .ok (.return_, 1) := by decide +kernel
theorem dX2_add_8 : decode cX2_add 8 = .ok (.aload_n 0, 1) := by decide +kernel
theorem dX2_add_9 : decode cX2_add 9 = .ok (.getfield 9, 3) := by decide +kernel
theorem dX2_add_12 : decode cX2_add 12 = .ok (.aload_n 0, 1) := by decide +kernel
theorem dX2_add_13 : decode cX2_add 13 = .ok (.getfield 15, 3) := by decide +kernel
theorem dX2_add_16 : decode cX2_add 16 = .ok (.iload_n 1, 1) := by decide +kernel
theorem dX2_add_17 : decode cX2_add 17 = .ok (.iastore, 1) := by decide +kernel
theorem dX2_add_18 : decode cX2_add 18 = .ok (.aload_n 0, 1) := by decide +kernel
theorem dX2_add_19 : decode cX2_add 19 = .ok (.dup, 1) := by decide +kernel
theorem dX2_add_20 : decode cX2_add 20 = .ok (.getfield 15, 3) := by decide +kernel
theorem dX2_add_23 : decode cX2_add 23 = .ok (.iconst 1, 1) := by decide +kernel
theorem dX2_add_24 : decode cX2_add 24 = .ok (.iadd, 1) := by decide +kernel
theorem dX2_add_25 : decode cX2_add 25 = .ok (.putfield 15, 3) := by decide +kernel
theorem dX2_add_28 : decode cX2_add 28 = .ok (.return_, 1) := by decide +kernel
theorem dX2_signAt_0 : decode cX2_signAt 0 = .ok (.iload_n 1, 1) := by decide +kernel
theorem dX2_signAt_1 : decode cX2_signAt 1 = .ok (.ifCond .lt 20, 3) := by decide +kernel
theorem dX2_signAt_4 : decode cX2_signAt 4 = .ok (.iload_n 1, 1) := by decide +kernel
theorem dX2_signAt_5 : decode cX2_signAt 5 = .ok (.aload_n 0, 1) := by decide +kernel
theorem dX2_signAt_6 : decode cX2_signAt 6 = .ok (.getfield 15, 3) := by decide +kernel
theorem dX2_signAt_9 : decode cX2_signAt 9 = .ok (.if_icmp .ge 12, 3) := by decide +kernel
theorem dX2_signAt_12 : decode cX2_signAt 12 = .ok (.aload_n 0, 1) := by decide +kernel
theorem dX2_signAt_13 : decode cX2_signAt 13 = .ok (.getfield 9, 3) := by decide +kernel
theorem dX2_signAt_16 : decode cX2_signAt 16 = .ok (.iload_n 1, 1) := by decide +kernel
theorem dX2_signAt_17 : decode cX2_signAt 17 = .ok (.iaload, 1) := by decide +kernel
theorem dX2_signAt_18 : decode cX2_signAt 18 = .ok (.goto 4, 3) := by decide +kernel
theorem dX2_signAt_21 : decode cX2_signAt 21 = .ok (.iconst (-1), 1) := by decide +kernel
theorem dX2_signAt_22 : decode cX2_signAt 22 = .ok (.ireturn, 1) := by decide +kernel
theorem dX2_textFault_0 : decode cX2_textFault 0 = .ok (.iconst 0, 1) := by decide +kernel
theorem dX2_textFault_1 : decode cX2_textFault 1 = .ok (.istore_n 1, 1) := by decide +kernel
theorem dX2_textFault_2 : decode cX2_textFault 2 = .ok (.iload_n 1, 1) := by decide +kernel
theorem dX2_textFault_3 : decode cX2_textFault 3 = .ok (.aload_n 0, 1) := by decide +kernel
theorem dX2_textFault_4 : decode cX2_textFault 4 = .ok (.getfield 15, 3) := by decide +kernel
theorem dX2_textFault_7 : decode cX2_textFault 7 = .ok (.if_icmp .ge 35, 3) := by decide +kernel
theorem dX2_textFault_10 : decode cX2_textFault 10 = .ok (.aload_n 0, 1) := by decide +kernel
theorem dX2_textFault_11 : decode cX2_textFault 11 = .ok (.iload_n 1, 1) := by decide +kernel
theorem dX2_textFault_12 : decode cX2_textFault 12 = .ok (.invokevirtual 23, 3) := by decide +kernel
theorem dX2_textFault_15 : decode cX2_textFault 15 = .ok (.bipush 97, 2) := by decide +kernel
theorem dX2_textFault_17 : decode cX2_textFault 17 = .ok (.isub, 1) := by decide +kernel
theorem dX2_textFault_18 : decode cX2_textFault 18 = .ok (.istore_n 2, 1) := by decide +kernel
theorem dX2_textFault_19 : decode cX2_textFault 19 = .ok (.iload_n 1, 1) := by decide +kernel
theorem dX2_textFault_20 : decode cX2_textFault 20 = .ok (.bipush 24, 2) := by decide +kernel
theorem dX2_textFault_22 : decode cX2_textFault 22 = .ok (.if_icmp .ge 12, 3) := by decide +kernel
theorem dX2_textFault_25 : decode cX2_textFault 25 = .ok (.iload_n 2, 1) := by decide +kernel
theorem dX2_textFault_26 : decode cX2_textFault 26 = .ok (.ifCond .lt 8, 3) := by decide +kernel
theorem dX2_textFault_29 : decode cX2_textFault 29 = .ok (.iload_n 2, 1) := by decide +kernel
theorem dX2_textFault_30 : decode cX2_textFault 30 = .ok (.iconst 4, 1) := by decide +kernel
theorem dX2_textFault_31 : decode cX2_textFault 31 = .ok (.if_icmp .lt 5, 3) := by decide +kernel
theorem dX2_textFault_34 : decode cX2_textFault 34 = .ok (.iload_n 1, 1) := by decide +kernel
theorem dX2_textFault_35 : decode cX2_textFault 35 = .ok (.ireturn, 1) := by decide +kernel
theorem dX2_textFault_36 : decode cX2_textFault 36 = .ok (.iinc 1 1, 3) := by decide +kernel
theorem dX2_textFault_39 : decode cX2_textFault 39 = .ok (.goto (-37), 3) := by decide +kernel
theorem dX2_textFault_42 : decode cX2_textFault 42 = .ok (.aload_n 0, 1) := by decide +kernel
theorem dX2_textFault_43 : decode cX2_textFault 43 = .ok (.getfield 15, 3) := by decide +kernel
theorem dX2_textFault_46 : decode cX2_textFault 46 = .ok (.ireturn, 1) := by decide +kernel
theorem dX2_isText_0 : decode cX2_isText 0 = .ok (.aload_n 0, 1) := by decide +kernel
theorem dX2_isText_1 : decode cX2_isText 1 = .ok (.getfield 15, 3) := by decide +kernel
theorem dX2_isText_4 : decode cX2_isText 4 = .ok (.ifCond .le 18, 3) := by decide +kernel
theorem dX2_isText_7 : decode cX2_isText 7 = .ok (.aload_n 0, 1) := by decide +kernel
theorem dX2_isText_8 : decode cX2_isText 8 = .ok (.invokevirtual 27, 3) := by decide +kernel
theorem dX2_isText_11 : decode cX2_isText 11 = .ok (.aload_n 0, 1) := by decide +kernel
theorem dX2_isText_12 : decode cX2_isText 12 = .ok (.getfield 15, 3) := by decide +kernel
theorem dX2_isText_15 : decode cX2_isText 15 = .ok (.if_icmp .ne 7, 3) := by decide +kernel
theorem dX2_isText_18 : decode cX2_isText 18 = .ok (.iconst 1, 1) := by decide +kernel
theorem dX2_isText_19 : decode cX2_isText 19 = .ok (.goto 4, 3) := by decide +kernel
theorem dX2_isText_22 : decode cX2_isText 22 = .ok (.iconst 0, 1) := by decide +kernel
theorem dX2_isText_23 : decode cX2_isText 23 = .ok (.ireturn, 1) := by decide +kernel
theorem dX3_init_0 : decode cX3_init 0 = .ok (.aload_n 0, 1) := by decide +kernel
theorem dX3_init_1 : decode cX3_init 1 = .ok (.invokespecial 3, 3) := by decide +kernel
theorem dX3_init_4 : decode cX3_init 4 = .ok (.aload_n 0, 1) := by decide +kernel
theorem dX3_init_5 : decode cX3_init 5 = .ok (.getstatic 9, 3) := by decide +kernel
theorem dX3_init_8 : decode cX3_init 8 = .ok (.invokevirtual 13, 3) := by decide +kernel
theorem dX3_init_11 : decode cX3_init 11 = .ok (.checkcast 14, 3) := by decide +kernel
theorem dX3_init_14 : decode cX3_init 14 = .ok (.putfield 18, 3) := by decide +kernel
theorem dX3_init_17 : decode cX3_init 17 = .ok (.aload_n 0, 1) := by decide +kernel
theorem dX3_init_18 : decode cX3_init 18 = .ok (.bipush 18, 2) := by decide +kernel
theorem dX3_init_20 : decode cX3_init 20 = .ok (.newarray .int, 2) := by decide +kernel
theorem dX3_init_22 : decode cX3_init 22 = .ok (.putfield 23, 3) := by decide +kernel
theorem dX3_init_25 : decode cX3_init 25 = .ok (.return_, 1) := by decide +kernel
theorem dX3_get_0 : decode cX3_get 0 = .ok (.iload_n 1, 1) := by decide +kernel
theorem dX3_get_1 : decode cX3_get 1 = .ok (.ifCond .lt 18, 3) := by decide +kernel
theorem dX3_get_4 : decode cX3_get 4 = .ok (.iload_n 1, 1) := by decide +kernel
theorem dX3_get_5 : decode cX3_get 5 = .ok (.bipush 18, 2) := by decide +kernel
theorem dX3_get_7 : decode cX3_get 7 = .ok (.if_icmp .ge 12, 3) := by decide +kernel
theorem dX3_get_10 : decode cX3_get 10 = .ok (.aload_n 0, 1) := by decide +kernel
theorem dX3_get_11 : decode cX3_get 11 = .ok (.getfield 18, 3) := by decide +kernel
theorem dX3_get_14 : decode cX3_get 14 = .ok (.iload_n 1, 1) := by decide +kernel
theorem dX3_get_15 : decode cX3_get 15 = .ok (.iaload, 1) := by decide +kernel
theorem dX3_get_16 : decode cX3_get 16 = .ok (.goto 4, 3) := by decide +kernel
theorem dX3_get_19 : decode cX3_get 19 = .ok (.iconst 0, 1) := by decide +kernel
theorem dX3_get_20 : decode cX3_get 20 = .ok (.ireturn, 1) := by decide +kernel
theorem dX3_set_0 : decode cX3_set 0 = .ok (.iload_n 1, 1) := by decide +kernel
theorem dX3_set_1 : decode cX3_set 1 = .ok (.invokestatic 26, 3) := by decide +kernel
theorem dX3_set_4 : decode cX3_set 4 = .ok (.ifCond .eq 10, 3) := by decide +kernel
theorem dX3_set_7 : decode cX3_set 7 = .ok (.aload_n 0, 1) := by decide +kernel
theorem dX3_set_8 : decode cX3_set 8 = .ok (.getfield 18, 3) := by decide +kernel
theorem dX3_set_11 : decode cX3_set 11 = .ok (.iload_n 1, 1) := by decide +kernel
theorem dX3_set_12 : decode cX3_set 12 = .ok (.iload_n 2, 1) := by decide +kernel
theorem dX3_set_13 : decode cX3_set 13 = .ok (.iastore, 1) := by decide +kernel
theorem dX3_set_14 : decode cX3_set 14 = .ok (.return_, 1) := by decide +kernel
theorem dX3_take_0 : decode cX3_take 0 = .ok (.iconst 0, 1) := by decide +kernel
theorem dX3_take_1 : decode cX3_take 1 = .ok (.istore_n 2, 1) := by decide +kernel
theorem dX3_take_2 : decode cX3_take 2 = .ok (.iload_n 2, 1) := by decide +kernel
theorem dX3_take_3 : decode cX3_take 3 = .ok (.bipush 18, 2) := by decide +kernel
theorem dX3_take_5 : decode cX3_take 5 = .ok (.if_icmp .ge 20, 3) := by decide +kernel
theorem dX3_take_8 : decode cX3_take 8 = .ok (.aload_n 0, 1) := by decide +kernel
theorem dX3_take_9 : decode cX3_take 9 = .ok (.getfield 18, 3) := by decide +kernel
theorem dX3_take_12 : decode cX3_take 12 = .ok (.iload_n 2, 1) := by decide +kernel
theorem dX3_take_13 : decode cX3_take 13 = .ok (.aload_n 1, 1) := by decide +kernel
theorem dX3_take_14 : decode cX3_take 14 = .ok (.iload_n 2, 1) := by decide +kernel
theorem dX3_take_15 : decode cX3_take 15 = .ok (.invokevirtual 30, 3) := by decide +kernel
theorem dX3_take_18 : decode cX3_take 18 = .ok (.iastore, 1) := by decide +kernel
theorem dX3_take_19 : decode cX3_take 19 = .ok (.iinc 2 1, 3) := by decide +kernel
theorem dX3_take_22 : decode cX3_take 22 = .ok (.goto (-20), 3) := by decide +kernel
theorem dX3_take_25 : decode cX3_take 25 = .ok (.return_, 1) := by decide +kernel
theorem dX3_ofToken_0 : decode cX3_ofToken 0 = .ok (.iload_n 1, 1) := by decide +kernel
theorem dX3_ofToken_1 : decode cX3_ofToken 1 = .ok (.invokestatic 34, 3) := by decide +kernel
theorem dX3_ofToken_4 : decode cX3_ofToken 4 = .ok (.ifCond .eq 9, 3) := by decide +kernel
theorem dX3_ofToken_7 : decode cX3_ofToken 7 = .ok (.aload_n 0, 1) := by decide +kernel
theorem dX3_ofToken_8 : decode cX3_ofToken 8 = .ok (.iload_n 1, 1) := by decide +kernel
theorem dX3_ofToken_9 : decode cX3_ofToken 9 = .ok (.invokevirtual 30, 3) := by decide +kernel
theorem dX3_ofToken_12 : decode cX3_ofToken 12 = .ok (.ireturn, 1) := by decide +kernel
theorem dX3_ofToken_13 : decode cX3_ofToken 13 = .ok (.aload_n 0, 1) := by decide +kernel
theorem dX3_ofToken_14 : decode cX3_ofToken 14 = .ok (.bipush 10, 2) := by decide +kernel
theorem dX3_ofToken_16 : decode cX3_ofToken 16 = .ok (.iload_n 1, 1) := by decide +kernel
theorem dX3_ofToken_17 : decode cX3_ofToken 17 = .ok (.invokestatic 39, 3) := by decide +kernel
theorem dX3_ofToken_20 : decode cX3_ofToken 20 = .ok (.iadd, 1) := by decide +kernel
theorem dX3_ofToken_21 : decode cX3_ofToken 21 = .ok (.iconst 2, 1) := by decide +kernel
theorem dX3_ofToken_22 : decode cX3_ofToken 22 = .ok (.isub, 1) := by decide +kernel
theorem dX3_ofToken_23 : decode cX3_ofToken 23 = .ok (.invokevirtual 30, 3) := by decide +kernel
theorem dX3_ofToken_26 : decode cX3_ofToken 26 = .ok (.istore_n 2, 1) := by decide +kernel
theorem dX3_ofToken_27 : decode cX3_ofToken 27 = .ok (.iload_n 1, 1) := by decide +kernel
theorem dX3_ofToken_28 : decode cX3_ofToken 28 = .ok (.invokestatic 42, 3) := by decide +kernel
theorem dX3_ofToken_31 : decode cX3_ofToken 31 = .ok (.ifCond .ne 12, 3) := by decide +kernel
theorem dX3_ofToken_34 : decode cX3_ofToken 34 = .ok (.aload_n 0, 1) := by decide +kernel
theorem dX3_ofToken_35 : decode cX3_ofToken 35 = .ok (.bipush 17, 2) := by decide +kernel
theorem dX3_ofToken_37 : decode cX3_ofToken 37 = .ok (.invokevirtual 30, 3) := by decide +kernel
theorem dX3_ofToken_40 : decode cX3_ofToken 40 = .ok (.iload_n 2, 1) := by decide +kernel
theorem dX3_ofToken_41 : decode cX3_ofToken 41 = .ok (.iadd, 1) := by decide +kernel
theorem dX3_ofToken_42 : decode cX3_ofToken 42 = .ok (.ireturn, 1) := by decide +kernel
theorem dX3_ofToken_43 : decode cX3_ofToken 43 = .ok (.aload_n 0, 1) := by decide +kernel
theorem dX3_ofToken_44 : decode cX3_ofToken 44 = .ok (.iconst 4, 1) := by decide +kernel
theorem dX3_ofToken_45 : decode cX3_ofToken 45 = .ok (.invokevirtual 30, 3) := by decide +kernel
theorem dX3_ofToken_48 : decode cX3_ofToken 48 = .ok (.aload_n 0, 1) := by decide +kernel
theorem dX3_ofToken_49 : decode cX3_ofToken 49 = .ok (.iconst 5, 1) := by decide +kernel
theorem dX3_ofToken_50 : decode cX3_ofToken 50 = .ok (.iload_n 1, 1) := by decide +kernel
theorem dX3_ofToken_51 : decode cX3_ofToken 51 = .ok (.invokestatic 45, 3) := by decide +kernel
theorem dX3_ofToken_54 : decode cX3_ofToken 54 = .ok (.invokestatic 48, 3) := by decide +kernel
theorem dX3_ofToken_57 : decode cX3_ofToken 57 = .ok (.iadd, 1) := by decide +kernel
theorem dX3_ofToken_58 : decode cX3_ofToken 58 = .ok (.invokevirtual 30, 3) := by decide +kernel
theorem dX3_ofToken_61 : decode cX3_ofToken 61 = .ok (.iadd, 1) := by decide +kernel
theorem dX3_ofToken_62 : decode cX3_ofToken 62 = .ok (.iload_n 2, 1) := by decide +kernel
theorem dX3_ofToken_63 : decode cX3_ofToken 63 = .ok (.iadd, 1) := by decide +kernel
theorem dX3_ofToken_64 : decode cX3_ofToken 64 = .ok (.ireturn, 1) := by decide +kernel
theorem dX3_ofRow_0 : decode cX3_ofRow 0 = .ok (.iconst 0, 1) := by decide +kernel
theorem dX3_ofRow_1 : decode cX3_ofRow 1 = .ok (.istore_n 2, 1) := by decide +kernel
theorem dX3_ofRow_2 : decode cX3_ofRow 2 = .ok (.iconst 0, 1) := by decide +kernel
theorem dX3_ofRow_3 : decode cX3_ofRow 3 = .ok (.istore_n 3, 1) := by decide +kernel
theorem dX3_ofRow_4 : decode cX3_ofRow 4 = .ok (.iload_n 3, 1) := by decide +kernel
theorem dX3_ofRow_5 : decode cX3_ofRow 5 = .ok (.aload_n 1, 1) := by decide +kernel
theorem dX3_ofRow_6 : decode cX3_ofRow 6 = .ok (.invokevirtual 51, 3) := by decide +kernel
theorem dX3_ofRow_9 : decode cX3_ofRow 9 = .ok (.if_icmp .ge 21, 3) := by decide +kernel
theorem dX3_ofRow_12 : decode cX3_ofRow 12 = .ok (.iload_n 2, 1) := by decide +kernel
theorem dX3_ofRow_13 : decode cX3_ofRow 13 = .ok (.aload_n 0, 1) := by decide +kernel
theorem dX3_ofRow_14 : decode cX3_ofRow 14 = .ok (.aload_n 1, 1) := by decide +kernel
theorem dX3_ofRow_15 : decode cX3_ofRow 15 = .ok (.iload_n 3, 1) := by decide +kernel
theorem dX3_ofRow_16 : decode cX3_ofRow 16 = .ok (.invokevirtual 57, 3) := by decide +kernel
theorem dX3_ofRow_19 : decode cX3_ofRow 19 = .ok (.invokevirtual 58, 3) := by decide +kernel
theorem dX3_ofRow_22 : decode cX3_ofRow 22 = .ok (.iadd, 1) := by decide +kernel
theorem dX3_ofRow_23 : decode cX3_ofRow 23 = .ok (.istore_n 2, 1) := by decide +kernel
theorem dX3_ofRow_24 : decode cX3_ofRow 24 = .ok (.iinc 3 1, 3) := by decide +kernel
theorem dX3_ofRow_27 : decode cX3_ofRow 27 = .ok (.goto (-23), 3) := by decide +kernel
theorem dX3_ofRow_30 : decode cX3_ofRow 30 = .ok (.iload_n 2, 1) := by decide +kernel
theorem dX3_ofRow_31 : decode cX3_ofRow 31 = .ok (.ireturn, 1) := by decide +kernel
theorem dX3_follow_0 : decode cX3_follow 0 = .ok (.aload_n 0, 1) := by decide +kernel
theorem dX3_follow_1 : decode cX3_follow 1 = .ok (.aload_n 1, 1) := by decide +kernel
theorem dX3_follow_2 : decode cX3_follow 2 = .ok (.invokevirtual 61, 3) := by decide +kernel
theorem dX3_follow_5 : decode cX3_follow 5 = .ok (.aload_n 1, 1) := by decide +kernel
theorem dX3_follow_6 : decode cX3_follow 6 = .ok (.invokevirtual 51, 3) := by decide +kernel
theorem dX3_follow_9 : decode cX3_follow 9 = .ok (.iconst 3, 1) := by decide +kernel
theorem dX3_follow_10 : decode cX3_follow 10 = .ok (.iadd, 1) := by decide +kernel
theorem dX3_follow_11 : decode cX3_follow 11 = .ok (.istore_n 2, 1) := by decide +kernel
theorem dX3_follow_12 : decode cX3_follow 12 = .ok (.aload_n 0, 1) := by decide +kernel
theorem dX3_follow_13 : decode cX3_follow 13 = .ok (.iconst 0, 1) := by decide +kernel
theorem dX3_follow_14 : decode cX3_follow 14 = .ok (.iconst 4, 1) := by decide +kernel
theorem dX3_follow_15 : decode cX3_follow 15 = .ok (.aload_n 1, 1) := by decide +kernel
theorem dX3_follow_16 : decode cX3_follow 16 = .ok (.invokevirtual 65, 3) := by decide +kernel
theorem dX3_follow_19 : decode cX3_follow 19 = .ok (.iconst 4, 1) := by decide +kernel
theorem dX3_follow_20 : decode cX3_follow 20 = .ok (.iadd, 1) := by decide +kernel
theorem dX3_follow_21 : decode cX3_follow 21 = .ok (.invokevirtual 68, 3) := by decide +kernel
theorem dX3_follow_24 : decode cX3_follow 24 = .ok (.istore_n 3, 1) := by decide +kernel
theorem dX3_follow_25 : decode cX3_follow 25 = .ok (.iload_n 3, 1) := by decide +kernel
theorem dX3_follow_26 : decode cX3_follow 26 = .ok (.aload_n 0, 1) := by decide +kernel
theorem dX3_follow_27 : decode cX3_follow 27 = .ok (.iconst 4, 1) := by decide +kernel
theorem dX3_follow_28 : decode cX3_follow 28 = .ok (.iconst 5, 1) := by decide +kernel
theorem dX3_follow_29 : decode cX3_follow 29 = .ok (.iload_n 2, 1) := by decide +kernel
theorem dX3_follow_30 : decode cX3_follow 30 = .ok (.invokevirtual 68, 3) := by decide +kernel
theorem dX3_follow_33 : decode cX3_follow 33 = .ok (.iadd, 1) := by decide +kernel
theorem dX3_follow_34 : decode cX3_follow 34 = .ok (.istore_n 3, 1) := by decide +kernel
theorem dX3_follow_35 : decode cX3_follow 35 = .ok (.iload_n 3, 1) := by decide +kernel
theorem dX3_follow_36 : decode cX3_follow 36 = .ok (.aload_n 0, 1) := by decide +kernel
theorem dX3_follow_37 : decode cX3_follow 37 = .ok (.iconst 5, 1) := by decide +kernel
theorem dX3_follow_38 : decode cX3_follow 38 = .ok (.bipush 10, 2) := by decide +kernel
theorem dX3_follow_40 : decode cX3_follow 40 = .ok (.aload_n 1, 1) := by decide +kernel
theorem dX3_follow_41 : decode cX3_follow 41 = .ok (.invokevirtual 72, 3) := by decide +kernel
theorem dX3_follow_44 : decode cX3_follow 44 = .ok (.iconst 5, 1) := by decide +kernel
theorem dX3_follow_45 : decode cX3_follow 45 = .ok (.iadd, 1) := by decide +kernel
theorem dX3_follow_46 : decode cX3_follow 46 = .ok (.invokevirtual 68, 3) := by decide +kernel
theorem dX3_follow_49 : decode cX3_follow 49 = .ok (.iadd, 1) := by decide +kernel
theorem dX3_follow_50 : decode cX3_follow 50 = .ok (.istore_n 3, 1) := by decide +kernel
theorem dX3_follow_51 : decode cX3_follow 51 = .ok (.iload_n 3, 1) := by decide +kernel
theorem dX3_follow_52 : decode cX3_follow 52 = .ok (.aload_n 0, 1) := by decide +kernel
theorem dX3_follow_53 : decode cX3_follow 53 = .ok (.bipush 10, 2) := by decide +kernel
theorem dX3_follow_55 : decode cX3_follow 55 = .ok (.bipush 17, 2) := by decide +kernel
theorem dX3_follow_57 : decode cX3_follow 57 = .ok (.aload_n 1, 1) := by decide +kernel
theorem dX3_follow_58 : decode cX3_follow 58 = .ok (.invokevirtual 72, 3) := by decide +kernel
theorem dX3_follow_61 : decode cX3_follow 61 = .ok (.aload_n 1, 1) := by decide +kernel
theorem dX3_follow_62 : decode cX3_follow 62 = .ok (.invokevirtual 75, 3) := by decide +kernel
theorem dX3_follow_65 : decode cX3_follow 65 = .ok (.iadd, 1) := by decide +kernel
theorem dX3_follow_66 : decode cX3_follow 66 = .ok (.bipush 7, 2) := by decide +kernel
theorem dX3_follow_68 : decode cX3_follow 68 = .ok (.iadd, 1) := by decide +kernel
theorem dX3_follow_69 : decode cX3_follow 69 = .ok (.invokevirtual 68, 3) := by decide +kernel
theorem dX3_follow_72 : decode cX3_follow 72 = .ok (.iadd, 1) := by decide +kernel
theorem dX3_follow_73 : decode cX3_follow 73 = .ok (.istore_n 3, 1) := by decide +kernel
