theorem dX8_layState_160 : decode cX8_layState 160 = .ok (.iload 8, 2) := by decide +kernel
theorem dX8_layState_162 : decode cX8_layState 162 = .ok (.iadd, 1) := by decide +kernel
theorem dX8_layState_163 : decode cX8_layState 163 = .ok (.imul, 1) := by decide +kernel
theorem dX8_layState_164 : decode cX8_layState 164 = .ok (.iload 7, 2) := by decide +kernel
theorem dX8_layState_166 : decode cX8_layState 166 = .ok (.iadd, 1) := by decide +kernel
theorem dX8_layState_167 : decode cX8_layState 167 = .ok (.aload_n 0, 1) := by decide +kernel
theorem dX8_layState_168 : decode cX8_layState 168 = .ok (.iload 7, 2) := by decide +kernel
theorem dX8_layState_170 : decode cX8_layState 170 = .ok (.iload 8, 2) := by decide +kernel
theorem dX8_layState_172 : decode cX8_layState 172 = .ok (.invokevirtual 81, 3) := by decide +kernel
theorem dX8_layState_175 : decode cX8_layState 175 = .ok (.sipush 1000, 3) := by decide +kernel
theorem dX8_layState_178 : decode cX8_layState 178 = .ok (.bipush 10, 2) := by decide +kernel
theorem dX8_layState_180 : decode cX8_layState 180 = .ok (.iload 7, 2) := by decide +kernel
theorem dX8_layState_182 : decode cX8_layState 182 = .ok (.imul, 1) := by decide +kernel
theorem dX8_layState_183 : decode cX8_layState 183 = .ok (.iadd, 1) := by decide +kernel
theorem dX8_layState_184 : decode cX8_layState 184 = .ok (.iload 8, 2) := by decide +kernel
theorem dX8_layState_186 : decode cX8_layState 186 = .ok (.iadd, 1) := by decide +kernel
theorem dX8_layState_187 : decode cX8_layState 187 = .ok (.invokevirtual 122, 3) := by decide +kernel
theorem dX8_layState_190 : decode cX8_layState 190 = .ok (.iinc 8 1, 3) := by decide +kernel
theorem dX8_layState_193 : decode cX8_layState 193 = .ok (.goto (-56), 3) := by decide +kernel
theorem dX8_layState_196 : decode cX8_layState 196 = .ok (.iinc 7 1, 3) := by decide +kernel
theorem dX8_layState_199 : decode cX8_layState 199 = .ok (.goto (-71), 3) := by decide +kernel
theorem dX8_layState_202 : decode cX8_layState 202 = .ok (.return_, 1) := by decide +kernel
theorem dX8_layCheapest_0 : decode cX8_layCheapest 0 = .ok (.iconst 0, 1) := by decide +kernel
theorem dX8_layCheapest_1 : decode cX8_layCheapest 1 = .ok (.istore_n 3, 1) := by decide +kernel
theorem dX8_layCheapest_2 : decode cX8_layCheapest 2 = .ok (.iload_n 3, 1) := by decide +kernel
theorem dX8_layCheapest_3 : decode cX8_layCheapest 3 = .ok (.iload_n 2, 1) := by decide +kernel
theorem dX8_layCheapest_4 : decode cX8_layCheapest 4 = .ok (.if_icmp .ge 48, 3) := by decide +kernel
theorem dX8_layCheapest_7 : decode cX8_layCheapest 7 = .ok (.iconst 1, 1) := by decide +kernel
theorem dX8_layCheapest_8 : decode cX8_layCheapest 8 = .ok (.istore 4, 2) := by decide +kernel
theorem dX8_layCheapest_10 : decode cX8_layCheapest 10 = .ok (.iload 4, 2) := by decide +kernel
theorem dX8_layCheapest_12 : decode cX8_layCheapest 12 = .ok (.iload_n 3, 1) := by decide +kernel
theorem dX8_layCheapest_13 : decode cX8_layCheapest 13 = .ok (.if_icmp .gt 33, 3) := by decide +kernel
theorem dX8_layCheapest_16 : decode cX8_layCheapest 16 = .ok (.aload_n 0, 1) := by decide +kernel
theorem dX8_layCheapest_17 : decode cX8_layCheapest 17 = .ok (.getfield 31, 3) := by decide +kernel
theorem dX8_layCheapest_20 : decode cX8_layCheapest 20 = .ok (.bipush 25, 2) := by decide +kernel
theorem dX8_layCheapest_22 : decode cX8_layCheapest 22 = .ok (.iload_n 3, 1) := by decide +kernel
theorem dX8_layCheapest_23 : decode cX8_layCheapest 23 = .ok (.imul, 1) := by decide +kernel
theorem dX8_layCheapest_24 : decode cX8_layCheapest 24 = .ok (.iload 4, 2) := by decide +kernel
theorem dX8_layCheapest_26 : decode cX8_layCheapest 26 = .ok (.iadd, 1) := by decide +kernel
theorem dX8_layCheapest_27 : decode cX8_layCheapest 27 = .ok (.aload_n 0, 1) := by decide +kernel
theorem dX8_layCheapest_28 : decode cX8_layCheapest 28 = .ok (.iload_n 1, 1) := by decide +kernel
theorem dX8_layCheapest_29 : decode cX8_layCheapest 29 = .ok (.iload_n 3, 1) := by decide +kernel
theorem dX8_layCheapest_30 : decode cX8_layCheapest 30 = .ok (.iadd, 1) := by decide +kernel
theorem dX8_layCheapest_31 : decode cX8_layCheapest 31 = .ok (.iload 4, 2) := by decide +kernel
theorem dX8_layCheapest_33 : decode cX8_layCheapest 33 = .ok (.iload_n 1, 1) := by decide +kernel
theorem dX8_layCheapest_34 : decode cX8_layCheapest 34 = .ok (.iload_n 2, 1) := by decide +kernel
theorem dX8_layCheapest_35 : decode cX8_layCheapest 35 = .ok (.iadd, 1) := by decide +kernel
theorem dX8_layCheapest_36 : decode cX8_layCheapest 36 = .ok (.invokevirtual 108, 3) := by decide +kernel
theorem dX8_layCheapest_39 : decode cX8_layCheapest 39 = .ok (.iastore, 1) := by decide +kernel
theorem dX8_layCheapest_40 : decode cX8_layCheapest 40 = .ok (.iinc 4 1, 3) := by decide +kernel
theorem dX8_layCheapest_43 : decode cX8_layCheapest 43 = .ok (.goto (-33), 3) := by decide +kernel
theorem dX8_layCheapest_46 : decode cX8_layCheapest 46 = .ok (.iinc 3 1, 3) := by decide +kernel
theorem dX8_layCheapest_49 : decode cX8_layCheapest 49 = .ok (.goto (-47), 3) := by decide +kernel
theorem dX8_layCheapest_52 : decode cX8_layCheapest 52 = .ok (.iconst 0, 1) := by decide +kernel
theorem dX8_layCheapest_53 : decode cX8_layCheapest 53 = .ok (.istore_n 3, 1) := by decide +kernel
theorem dX8_layCheapest_54 : decode cX8_layCheapest 54 = .ok (.iload_n 3, 1) := by decide +kernel
theorem dX8_layCheapest_55 : decode cX8_layCheapest 55 = .ok (.bipush 25, 2) := by decide +kernel
theorem dX8_layCheapest_57 : decode cX8_layCheapest 57 = .ok (.if_icmp .ge 45, 3) := by decide +kernel
theorem dX8_layCheapest_60 : decode cX8_layCheapest 60 = .ok (.aload_n 0, 1) := by decide +kernel
theorem dX8_layCheapest_61 : decode cX8_layCheapest 61 = .ok (.getfield 22, 3) := by decide +kernel
theorem dX8_layCheapest_64 : decode cX8_layCheapest 64 = .ok (.bipush 25, 2) := by decide +kernel
theorem dX8_layCheapest_66 : decode cX8_layCheapest 66 = .ok (.iload_n 2, 1) := by decide +kernel
theorem dX8_layCheapest_67 : decode cX8_layCheapest 67 = .ok (.imul, 1) := by decide +kernel
theorem dX8_layCheapest_68 : decode cX8_layCheapest 68 = .ok (.iload_n 3, 1) := by decide +kernel
theorem dX8_layCheapest_69 : decode cX8_layCheapest 69 = .ok (.iadd, 1) := by decide +kernel
theorem dX8_layCheapest_70 : decode cX8_layCheapest 70 = .ok (.iconst 0, 1) := by decide +kernel
theorem dX8_layCheapest_71 : decode cX8_layCheapest 71 = .ok (.iastore, 1) := by decide +kernel
theorem dX8_layCheapest_72 : decode cX8_layCheapest 72 = .ok (.aload_n 0, 1) := by decide +kernel
theorem dX8_layCheapest_73 : decode cX8_layCheapest 73 = .ok (.getfield 25, 3) := by decide +kernel
theorem dX8_layCheapest_76 : decode cX8_layCheapest 76 = .ok (.bipush 25, 2) := by decide +kernel
theorem dX8_layCheapest_78 : decode cX8_layCheapest 78 = .ok (.iload_n 2, 1) := by decide +kernel
theorem dX8_layCheapest_79 : decode cX8_layCheapest 79 = .ok (.imul, 1) := by decide +kernel
theorem dX8_layCheapest_80 : decode cX8_layCheapest 80 = .ok (.iload_n 3, 1) := by decide +kernel
theorem dX8_layCheapest_81 : decode cX8_layCheapest 81 = .ok (.iadd, 1) := by decide +kernel
theorem dX8_layCheapest_82 : decode cX8_layCheapest 82 = .ok (.iconst 0, 1) := by decide +kernel
theorem dX8_layCheapest_83 : decode cX8_layCheapest 83 = .ok (.iastore, 1) := by decide +kernel
theorem dX8_layCheapest_84 : decode cX8_layCheapest 84 = .ok (.aload_n 0, 1) := by decide +kernel
theorem dX8_layCheapest_85 : decode cX8_layCheapest 85 = .ok (.getfield 28, 3) := by decide +kernel
theorem dX8_layCheapest_88 : decode cX8_layCheapest 88 = .ok (.bipush 25, 2) := by decide +kernel
theorem dX8_layCheapest_90 : decode cX8_layCheapest 90 = .ok (.iload_n 2, 1) := by decide +kernel
theorem dX8_layCheapest_91 : decode cX8_layCheapest 91 = .ok (.imul, 1) := by decide +kernel
theorem dX8_layCheapest_92 : decode cX8_layCheapest 92 = .ok (.iload_n 3, 1) := by decide +kernel
theorem dX8_layCheapest_93 : decode cX8_layCheapest 93 = .ok (.iadd, 1) := by decide +kernel
theorem dX8_layCheapest_94 : decode cX8_layCheapest 94 = .ok (.iconst (-1), 1) := by decide +kernel
theorem dX8_layCheapest_95 : decode cX8_layCheapest 95 = .ok (.iastore, 1) := by decide +kernel
theorem dX8_layCheapest_96 : decode cX8_layCheapest 96 = .ok (.iinc 3 1, 3) := by decide +kernel
theorem dX8_layCheapest_99 : decode cX8_layCheapest 99 = .ok (.goto (-45), 3) := by decide +kernel
theorem dX8_layCheapest_102 : decode cX8_layCheapest 102 = .ok (.iload_n 2, 1) := by decide +kernel
theorem dX8_layCheapest_103 : decode cX8_layCheapest 103 = .ok (.iconst 1, 1) := by decide +kernel
theorem dX8_layCheapest_104 : decode cX8_layCheapest 104 = .ok (.isub, 1) := by decide +kernel
theorem dX8_layCheapest_105 : decode cX8_layCheapest 105 = .ok (.istore_n 3, 1) := by decide +kernel
theorem dX8_layCheapest_106 : decode cX8_layCheapest 106 = .ok (.iload_n 3, 1) := by decide +kernel
theorem dX8_layCheapest_107 : decode cX8_layCheapest 107 = .ok (.ifCond .lt 44, 3) := by decide +kernel
theorem dX8_layCheapest_110 : decode cX8_layCheapest 110 = .ok (.iconst 0, 1) := by decide +kernel
theorem dX8_layCheapest_111 : decode cX8_layCheapest 111 = .ok (.istore 4, 2) := by decide +kernel
theorem dX8_layCheapest_113 : decode cX8_layCheapest 113 = .ok (.iload 4, 2) := by decide +kernel
theorem dX8_layCheapest_115 : decode cX8_layCheapest 115 = .ok (.bipush 25, 2) := by decide +kernel
theorem dX8_layCheapest_117 : decode cX8_layCheapest 117 = .ok (.if_icmp .ge 28, 3) := by decide +kernel
theorem dX8_layCheapest_120 : decode cX8_layCheapest 120 = .ok (.iload 4, 2) := by decide +kernel
theorem dX8_layCheapest_122 : decode cX8_layCheapest 122 = .ok (.ifCond .eq 9, 3) := by decide +kernel
theorem dX8_layCheapest_125 : decode cX8_layCheapest 125 = .ok (.iload 4, 2) := by decide +kernel
theorem dX8_layCheapest_127 : decode cX8_layCheapest 127 = .ok (.iload_n 3, 1) := by decide +kernel
theorem dX8_layCheapest_128 : decode cX8_layCheapest 128 = .ok (.if_icmp .ge 17, 3) := by decide +kernel
theorem dX8_layCheapest_131 : decode cX8_layCheapest 131 = .ok (.aload_n 0, 1) := by decide +kernel
theorem dX8_layCheapest_132 : decode cX8_layCheapest 132 = .ok (.iload_n 1, 1) := by decide +kernel
theorem dX8_layCheapest_133 : decode cX8_layCheapest 133 = .ok (.iload_n 3, 1) := by decide +kernel
theorem dX8_layCheapest_134 : decode cX8_layCheapest 134 = .ok (.iload 4, 2) := by decide +kernel
theorem dX8_layCheapest_136 : decode cX8_layCheapest 136 = .ok (.invokevirtual 126, 3) := by decide +kernel
theorem dX8_layCheapest_139 : decode cX8_layCheapest 139 = .ok (.iinc 4 1, 3) := by decide +kernel
theorem dX8_layCheapest_142 : decode cX8_layCheapest 142 = .ok (.goto (-29), 3) := by decide +kernel
theorem dX8_layCheapest_145 : decode cX8_layCheapest 145 = .ok (.iinc 3 (-1), 3) := by decide +kernel
theorem dX8_layCheapest_148 : decode cX8_layCheapest 148 = .ok (.goto (-42), 3) := by decide +kernel
theorem dX8_layCheapest_151 : decode cX8_layCheapest 151 = .ok (.aload_n 0, 1) := by decide +kernel
theorem dX8_layCheapest_152 : decode cX8_layCheapest 152 = .ok (.getfield 22, 3) := by decide +kernel
theorem dX8_layCheapest_155 : decode cX8_layCheapest 155 = .ok (.iconst 0, 1) := by decide +kernel
theorem dX8_layCheapest_156 : decode cX8_layCheapest 156 = .ok (.iaload, 1) := by decide +kernel
theorem dX8_layCheapest_157 : decode cX8_layCheapest 157 = .ok (.ireturn, 1) := by decide +kernel
theorem dX8_lengthOf_0 : decode cX8_lengthOf 0 = .ok (.iload_n 0, 1) := by decide +kernel
theorem dX8_lengthOf_1 : decode cX8_lengthOf 1 = .ok (.bipush 100, 2) := by decide +kernel
theorem dX8_lengthOf_3 : decode cX8_lengthOf 3 = .ok (.if_icmp .ge 7, 3) := by decide +kernel
theorem dX8_lengthOf_6 : decode cX8_lengthOf 6 = .ok (.iconst 1, 1) := by decide +kernel
theorem dX8_lengthOf_7 : decode cX8_lengthOf 7 = .ok (.goto 7, 3) := by decide +kernel
theorem dX8_lengthOf_10 : decode cX8_lengthOf 10 = .ok (.iload_n 0, 1) := by decide +kernel
theorem dX8_lengthOf_11 : decode cX8_lengthOf 11 = .ok (.bipush 10, 2) := by decide +kernel
theorem dX8_lengthOf_13 : decode cX8_lengthOf 13 = .ok (.irem, 1) := by decide +kernel
theorem dX8_lengthOf_14 : decode cX8_lengthOf 14 = .ok (.ireturn, 1) := by decide +kernel
theorem dX8_layTokens_0 : decode cX8_layTokens 0 = .ok (.aload_n 0, 1) := by decide +kernel
theorem dX8_layTokens_1 : decode cX8_layTokens 1 = .ok (.iconst 0, 1) := by decide +kernel
theorem dX8_layTokens_2 : decode cX8_layTokens 2 = .ok (.aload_n 0, 1) := by decide +kernel
theorem dX8_layTokens_3 : decode cX8_layTokens 3 = .ok (.getfield 92, 3) := by decide +kernel
theorem dX8_layTokens_6 : decode cX8_layTokens 6 = .ok (.invokevirtual 130, 3) := by decide +kernel
theorem dX8_layTokens_9 : decode cX8_layTokens 9 = .ok (.pop, 1) := by decide +kernel
theorem dX8_layTokens_10 : decode cX8_layTokens 10 = .ok (.aload_n 0, 1) := by decide +kernel
theorem dX8_layTokens_11 : decode cX8_layTokens 11 = .ok (.iconst 0, 1) := by decide +kernel
theorem dX8_layTokens_12 : decode cX8_layTokens 12 = .ok (.putfield 133, 3) := by decide +kernel
theorem dX8_layTokens_15 : decode cX8_layTokens 15 = .ok (.iconst 0, 1) := by decide +kernel
theorem dX8_layTokens_16 : decode cX8_layTokens 16 = .ok (.istore_n 1, 1) := by decide +kernel
theorem dX8_layTokens_17 : decode cX8_layTokens 17 = .ok (.iload_n 1, 1) := by decide +kernel
theorem dX8_layTokens_18 : decode cX8_layTokens 18 = .ok (.bipush 25, 2) := by decide +kernel
theorem dX8_layTokens_20 : decode cX8_layTokens 20 = .ok (.idiv, 1) := by decide +kernel
theorem dX8_layTokens_21 : decode cX8_layTokens 21 = .ok (.aload_n 0, 1) := by decide +kernel
theorem dX8_layTokens_22 : decode cX8_layTokens 22 = .ok (.getfield 92, 3) := by decide +kernel
theorem dX8_layTokens_25 : decode cX8_layTokens 25 = .ok (.if_icmp .ge 71, 3) := by decide +kernel
theorem dX8_layTokens_28 : decode cX8_layTokens 28 = .ok (.aload_n 0, 1) := by decide +kernel
theorem dX8_layTokens_29 : decode cX8_layTokens 29 = .ok (.getfield 28, 3) := by decide +kernel
theorem dX8_layTokens_32 : decode cX8_layTokens 32 = .ok (.iload_n 1, 1) := by decide +kernel
theorem dX8_layTokens_33 : decode cX8_layTokens 33 = .ok (.iaload, 1) := by decide +kernel
theorem dX8_layTokens_34 : decode cX8_layTokens 34 = .ok (.istore_n 2, 1) := by decide +kernel
theorem dX8_layTokens_35 : decode cX8_layTokens 35 = .ok (.iload_n 2, 1) := by decide +kernel
theorem dX8_layTokens_36 : decode cX8_layTokens 36 = .ok (.sipush 1000, 3) := by decide +kernel
theorem dX8_layTokens_39 : decode cX8_layTokens 39 = .ok (.if_icmp .ge 10, 3) := by decide +kernel
theorem dX8_layTokens_42 : decode cX8_layTokens 42 = .ok (.iload_n 1, 1) := by decide +kernel
theorem dX8_layTokens_43 : decode cX8_layTokens 43 = .ok (.bipush 25, 2) := by decide +kernel
theorem dX8_layTokens_45 : decode cX8_layTokens 45 = .ok (.irem, 1) := by decide +kernel
theorem dX8_layTokens_46 : decode cX8_layTokens 46 = .ok (.goto 11, 3) := by decide +kernel
theorem dX8_layTokens_49 : decode cX8_layTokens 49 = .ok (.iload_n 2, 1) := by decide +kernel
theorem dX8_layTokens_50 : decode cX8_layTokens 50 = .ok (.sipush 1000, 3) := by decide +kernel
theorem dX8_layTokens_53 : decode cX8_layTokens 53 = .ok (.isub, 1) := by decide +kernel
theorem dX8_layTokens_54 : decode cX8_layTokens 54 = .ok (.bipush 10, 2) := by decide +kernel
theorem dX8_layTokens_56 : decode cX8_layTokens 56 = .ok (.idiv, 1) := by decide +kernel
theorem dX8_layTokens_57 : decode cX8_layTokens 57 = .ok (.istore_n 3, 1) := by decide +kernel
theorem dX8_layTokens_58 : decode cX8_layTokens 58 = .ok (.aload_n 0, 1) := by decide +kernel
theorem dX8_layTokens_59 : decode cX8_layTokens 59 = .ok (.getfield 34, 3) := by decide +kernel
theorem dX8_layTokens_62 : decode cX8_layTokens 62 = .ok (.aload_n 0, 1) := by decide +kernel
theorem dX8_layTokens_63 : decode cX8_layTokens 63 = .ok (.getfield 133, 3) := by decide +kernel
theorem dX8_layTokens_66 : decode cX8_layTokens 66 = .ok (.iload_n 2, 1) := by decide +kernel
theorem dX8_layTokens_67 : decode cX8_layTokens 67 = .ok (.iastore, 1) := by decide +kernel
theorem dX8_layTokens_68 : decode cX8_layTokens 68 = .ok (.aload_n 0, 1) := by decide +kernel
theorem dX8_layTokens_69 : decode cX8_layTokens 69 = .ok (.dup, 1) := by decide +kernel
theorem dX8_layTokens_70 : decode cX8_layTokens 70 = .ok (.getfield 133, 3) := by decide +kernel
theorem dX8_layTokens_73 : decode cX8_layTokens 73 = .ok (.iconst 1, 1) := by decide +kernel
theorem dX8_layTokens_74 : decode cX8_layTokens 74 = .ok (.iadd, 1) := by decide +kernel
theorem dX8_layTokens_75 : decode cX8_layTokens 75 = .ok (.putfield 133, 3) := by decide +kernel
theorem dX8_layTokens_78 : decode cX8_layTokens 78 = .ok (.bipush 25, 2) := by decide +kernel
theorem dX8_layTokens_80 : decode cX8_layTokens 80 = .ok (.iload_n 1, 1) := by decide +kernel
theorem dX8_layTokens_81 : decode cX8_layTokens 81 = .ok (.bipush 25, 2) := by decide +kernel
theorem dX8_layTokens_83 : decode cX8_layTokens 83 = .ok (.idiv, 1) := by decide +kernel
theorem dX8_layTokens_84 : decode cX8_layTokens 84 = .ok (.iload_n 2, 1) := by decide +kernel
theorem dX8_layTokens_85 : decode cX8_layTokens 85 = .ok (.invokestatic 136, 3) := by decide +kernel
theorem dX8_layTokens_88 : decode cX8_layTokens 88 = .ok (.iadd, 1) := by decide +kernel
theorem dX8_layTokens_89 : decode cX8_layTokens 89 = .ok (.imul, 1) := by decide +kernel
theorem dX8_layTokens_90 : decode cX8_layTokens 90 = .ok (.iload_n 3, 1) := by decide +kernel
theorem dX8_layTokens_91 : decode cX8_layTokens 91 = .ok (.iadd, 1) := by decide +kernel
theorem dX8_layTokens_92 : decode cX8_layTokens 92 = .ok (.istore_n 1, 1) := by decide +kernel
theorem dX8_layTokens_93 : decode cX8_layTokens 93 = .ok (.goto (-76), 3) := by decide +kernel
theorem dX8_layTokens_96 : decode cX8_layTokens 96 = .ok (.return_, 1) := by decide +kernel
theorem dX8_lettersOf_0 : decode cX8_lettersOf 0 = .ok (.iconst 0, 1) := by decide +kernel
theorem dX8_lettersOf_1 : decode cX8_lettersOf 1 = .ok (.istore_n 1, 1) := by decide +kernel
theorem dX8_lettersOf_2 : decode cX8_lettersOf 2 = .ok (.iconst 0, 1) := by decide +kernel
theorem dX8_lettersOf_3 : decode cX8_lettersOf 3 = .ok (.istore_n 2, 1) := by decide +kernel
theorem dX8_lettersOf_4 : decode cX8_lettersOf 4 = .ok (.iload_n 2, 1) := by decide +kernel
theorem dX8_lettersOf_5 : decode cX8_lettersOf 5 = .ok (.aload_n 0, 1) := by decide +kernel
theorem dX8_lettersOf_6 : decode cX8_lettersOf 6 = .ok (.getfield 133, 3) := by decide +kernel
theorem dX8_lettersOf_9 : decode cX8_lettersOf 9 = .ok (.if_icmp .ge 28, 3) := by decide +kernel
theorem dX8_lettersOf_12 : decode cX8_lettersOf 12 = .ok (.iload_n 1, 1) := by decide +kernel
theorem dX8_lettersOf_13 : decode cX8_lettersOf 13 = .ok (.aload_n 0, 1) := by decide +kernel
theorem dX8_lettersOf_14 : decode cX8_lettersOf 14 = .ok (.getfield 34, 3) := by decide +kernel
theorem dX8_lettersOf_17 : decode cX8_lettersOf 17 = .ok (.iload_n 2, 1) := by decide +kernel
theorem dX8_lettersOf_18 : decode cX8_lettersOf 18 = .ok (.iaload, 1) := by decide +kernel
theorem dX8_lettersOf_19 : decode cX8_lettersOf 19 = .ok (.bipush 100, 2) := by decide +kernel
theorem dX8_lettersOf_21 : decode cX8_lettersOf 21 = .ok (.if_icmp .ge 7, 3) := by decide +kernel
theorem dX8_lettersOf_24 : decode cX8_lettersOf 24 = .ok (.iconst 1, 1) := by decide +kernel
theorem dX8_lettersOf_25 : decode cX8_lettersOf 25 = .ok (.goto 4, 3) := by decide +kernel
theorem dX8_lettersOf_28 : decode cX8_lettersOf 28 = .ok (.iconst 2, 1) := by decide +kernel
theorem dX8_lettersOf_29 : decode cX8_lettersOf 29 = .ok (.iadd, 1) := by decide +kernel
theorem dX8_lettersOf_30 : decode cX8_lettersOf 30 = .ok (.istore_n 1, 1) := by decide +kernel
theorem dX8_lettersOf_31 : decode cX8_lettersOf 31 = .ok (.iinc 2 1, 3) := by decide +kernel
theorem dX8_lettersOf_34 : decode cX8_lettersOf 34 = .ok (.goto (-30), 3) := by decide +kernel
theorem dX8_lettersOf_37 : decode cX8_lettersOf 37 = .ok (.iload_n 1, 1) := by decide +kernel
theorem dX8_lettersOf_38 : decode cX8_lettersOf 38 = .ok (.ireturn, 1) := by decide +kernel
theorem dX8_cheapestTold_0 : decode cX8_cheapestTold 0 = .ok (.iload_n 1, 1) := by decide +kernel
theorem dX8_cheapestTold_1 : decode cX8_cheapestTold 1 = .ok (.ifCond .ne 12, 3) := by decide +kernel
theorem dX8_cheapestTold_4 : decode cX8_cheapestTold 4 = .ok (.aload_n 0, 1) := by decide +kernel
theorem dX8_cheapestTold_5 : decode cX8_cheapestTold 5 = .ok (.getfield 22, 3) := by decide +kernel
theorem dX8_cheapestTold_8 : decode cX8_cheapestTold 8 = .ok (.iconst 0, 1) := by decide +kernel
theorem dX8_cheapestTold_9 : decode cX8_cheapestTold 9 = .ok (.iaload, 1) := by decide +kernel
theorem dX8_cheapestTold_10 : decode cX8_cheapestTold 10 = .ok (.goto 51, 3) := by decide +kernel
theorem dX8_cheapestTold_13 : decode cX8_cheapestTold 13 = .ok (.iload_n 1, 1) := by decide +kernel
theorem dX8_cheapestTold_14 : decode cX8_cheapestTold 14 = .ok (.iconst 1, 1) := by decide +kernel
theorem dX8_cheapestTold_15 : decode cX8_cheapestTold 15 = .ok (.if_icmp .ne 10, 3) := by decide +kernel
theorem dX8_cheapestTold_18 : decode cX8_cheapestTold 18 = .ok (.aload_n 0, 1) := by decide +kernel
theorem dX8_cheapestTold_19 : decode cX8_cheapestTold 19 = .ok (.getfield 133, 3) := by decide +kernel
theorem dX8_cheapestTold_22 : decode cX8_cheapestTold 22 = .ok (.goto 39, 3) := by decide +kernel
theorem dX8_cheapestTold_25 : decode cX8_cheapestTold 25 = .ok (.iload_n 1, 1) := by decide +kernel
theorem dX8_cheapestTold_26 : decode cX8_cheapestTold 26 = .ok (.iconst 2, 1) := by decide +kernel
theorem dX8_cheapestTold_27 : decode cX8_cheapestTold 27 = .ok (.if_icmp .ne 10, 3) := by decide +kernel
theorem dX8_cheapestTold_30 : decode cX8_cheapestTold 30 = .ok (.aload_n 0, 1) := by decide +kernel
theorem dX8_cheapestTold_31 : decode cX8_cheapestTold 31 = .ok (.invokevirtual 139, 3) := by decide +kernel
theorem dX8_cheapestTold_34 : decode cX8_cheapestTold 34 = .ok (.goto 27, 3) := by decide +kernel
theorem dX8_cheapestTold_37 : decode cX8_cheapestTold 37 = .ok (.iload_n 1, 1) := by decide +kernel
theorem dX8_cheapestTold_38 : decode cX8_cheapestTold 38 = .ok (.bipush 10, 2) := by decide +kernel
theorem dX8_cheapestTold_40 : decode cX8_cheapestTold 40 = .ok (.isub, 1) := by decide +kernel
theorem dX8_cheapestTold_41 : decode cX8_cheapestTold 41 = .ok (.aload_n 0, 1) := by decide +kernel
theorem dX8_cheapestTold_42 : decode cX8_cheapestTold 42 = .ok (.getfield 133, 3) := by decide +kernel
theorem dX8_cheapestTold_45 : decode cX8_cheapestTold 45 = .ok (.if_icmp .ge 15, 3) := by decide +kernel
theorem dX8_cheapestTold_48 : decode cX8_cheapestTold 48 = .ok (.aload_n 0, 1) := by decide +kernel
theorem dX8_cheapestTold_49 : decode cX8_cheapestTold 49 = .ok (.getfield 34, 3) := by decide +kernel
theorem dX8_cheapestTold_52 : decode cX8_cheapestTold 52 = .ok (.iload_n 1, 1) := by decide +kernel
theorem dX8_cheapestTold_53 : decode cX8_cheapestTold 53 = .ok (.bipush 10, 2) := by decide +kernel
theorem dX8_cheapestTold_55 : decode cX8_cheapestTold 55 = .ok (.isub, 1) := by decide +kernel
theorem dX8_cheapestTold_56 : decode cX8_cheapestTold 56 = .ok (.iaload, 1) := by decide +kernel
theorem dX8_cheapestTold_57 : decode cX8_cheapestTold 57 = .ok (.goto 4, 3) := by decide +kernel
theorem dX8_cheapestTold_60 : decode cX8_cheapestTold 60 = .ok (.iconst (-1), 1) := by decide +kernel
theorem dX8_cheapestTold_61 : decode cX8_cheapestTold 61 = .ok (.ireturn, 1) := by decide +kernel
theorem dX8_cheapest_0 : decode cX8_cheapest 0 = .ok (.aload_n 0, 1) := by decide +kernel
theorem dX8_cheapest_1 : decode cX8_cheapest 1 = .ok (.getfield 92, 3) := by decide +kernel
theorem dX8_cheapest_4 : decode cX8_cheapest 4 = .ok (.ifCond .ne 7, 3) := by decide +kernel
theorem dX8_cheapest_7 : decode cX8_cheapest 7 = .ok (.sipush (-1003), 3) := by decide +kernel
theorem dX8_cheapest_10 : decode cX8_cheapest 10 = .ok (.ireturn, 1) := by decide +kernel
theorem dX8_cheapest_11 : decode cX8_cheapest 11 = .ok (.iload_n 1, 1) := by decide +kernel
theorem dX8_cheapest_12 : decode cX8_cheapest 12 = .ok (.iconst 0, 1) := by decide +kernel
theorem dX8_cheapest_13 : decode cX8_cheapest 13 = .ok (.iconst 2, 1) := by decide +kernel
theorem dX8_cheapest_14 : decode cX8_cheapest 14 = .ok (.invokestatic 49, 3) := by decide +kernel
theorem dX8_cheapest_17 : decode cX8_cheapest 17 = .ok (.ifCond .ne 18, 3) := by decide +kernel
theorem dX8_cheapest_20 : decode cX8_cheapest 20 = .ok (.iload_n 1, 1) := by decide +kernel
theorem dX8_cheapest_21 : decode cX8_cheapest 21 = .ok (.bipush 10, 2) := by decide +kernel
theorem dX8_cheapest_23 : decode cX8_cheapest 23 = .ok (.bipush 33, 2) := by decide +kernel
theorem dX8_cheapest_25 : decode cX8_cheapest 25 = .ok (.invokestatic 49, 3) := by decide +kernel
theorem dX8_cheapest_28 : decode cX8_cheapest 28 = .ok (.ifCond .ne 7, 3) := by decide +kernel
theorem dX8_cheapest_31 : decode cX8_cheapest 31 = .ok (.sipush (-1002), 3) := by decide +kernel
theorem dX8_cheapest_34 : decode cX8_cheapest 34 = .ok (.ireturn, 1) := by decide +kernel
theorem dX8_cheapest_35 : decode cX8_cheapest 35 = .ok (.aload_n 0, 1) := by decide +kernel
theorem dX8_cheapest_36 : decode cX8_cheapest 36 = .ok (.invokevirtual 142, 3) := by decide +kernel
theorem dX8_cheapest_39 : decode cX8_cheapest 39 = .ok (.aload_n 0, 1) := by decide +kernel
theorem dX8_cheapest_40 : decode cX8_cheapest 40 = .ok (.iload_n 1, 1) := by decide +kernel
theorem dX8_cheapest_41 : decode cX8_cheapest 41 = .ok (.invokevirtual 145, 3) := by decide +kernel
theorem dX8_cheapest_44 : decode cX8_cheapest 44 = .ok (.ireturn, 1) := by decide +kernel
theorem dX8_codeNow_0 : decode cX8_codeNow 0 = .ok (.iconst 0, 1) := by decide +kernel
theorem dX8_codeNow_1 : decode cX8_codeNow 1 = .ok (.istore_n 2, 1) := by decide +kernel
theorem dX8_codeNow_2 : decode cX8_codeNow 2 = .ok (.iconst 0, 1) := by decide +kernel
theorem dX8_codeNow_3 : decode cX8_codeNow 3 = .ok (.istore_n 3, 1) := by decide +kernel
theorem dX8_codeNow_4 : decode cX8_codeNow 4 = .ok (.iload_n 3, 1) := by decide +kernel
theorem dX8_codeNow_5 : decode cX8_codeNow 5 = .ok (.aload_n 0, 1) := by decide +kernel
theorem dX8_codeNow_6 : decode cX8_codeNow 6 = .ok (.getfield 133, 3) := by decide +kernel
theorem dX8_codeNow_9 : decode cX8_codeNow 9 = .ok (.if_icmp .ge 108, 3) := by decide +kernel
theorem dX8_codeNow_12 : decode cX8_codeNow 12 = .ok (.iload_n 2, 1) := by decide +kernel
theorem dX8_codeNow_13 : decode cX8_codeNow 13 = .ok (.iload_n 1, 1) := by decide +kernel
theorem dX8_codeNow_14 : decode cX8_codeNow 14 = .ok (.if_icmp .gt 103, 3) := by decide +kernel
theorem dX8_codeNow_17 : decode cX8_codeNow 17 = .ok (.aload_n 0, 1) := by decide +kernel
theorem dX8_codeNow_18 : decode cX8_codeNow 18 = .ok (.getfield 34, 3) := by decide +kernel
theorem dX8_codeNow_21 : decode cX8_codeNow 21 = .ok (.iload_n 3, 1) := by decide +kernel
theorem dX8_codeNow_22 : decode cX8_codeNow 22 = .ok (.iaload, 1) := by decide +kernel
theorem dX8_codeNow_23 : decode cX8_codeNow 23 = .ok (.istore 4, 2) := by decide +kernel
theorem dX8_codeNow_25 : decode cX8_codeNow 25 = .ok (.iload_n 2, 1) := by decide +kernel
theorem dX8_codeNow_26 : decode cX8_codeNow 26 = .ok (.iload_n 1, 1) := by decide +kernel
theorem dX8_codeNow_27 : decode cX8_codeNow 27 = .ok (.if_icmp .ne 46, 3) := by decide +kernel
theorem dX8_codeNow_30 : decode cX8_codeNow 30 = .ok (.iload 4, 2) := by decide +kernel
theorem dX8_codeNow_32 : decode cX8_codeNow 32 = .ok (.bipush 100, 2) := by decide +kernel
theorem dX8_codeNow_34 : decode cX8_codeNow 34 = .ok (.if_icmp .ge 11, 3) := by decide +kernel
theorem dX8_codeNow_37 : decode cX8_codeNow 37 = .ok (.bipush 97, 2) := by decide +kernel
theorem dX8_codeNow_39 : decode cX8_codeNow 39 = .ok (.iload 4, 2) := by decide +kernel
theorem dX8_codeNow_41 : decode cX8_codeNow 41 = .ok (.iadd, 1) := by decide +kernel
theorem dX8_codeNow_42 : decode cX8_codeNow 42 = .ok (.goto 30, 3) := by decide +kernel
theorem dX8_codeNow_45 : decode cX8_codeNow 45 = .ok (.iload 4, 2) := by decide +kernel
theorem dX8_codeNow_47 : decode cX8_codeNow 47 = .ok (.sipush 1000, 3) := by decide +kernel
theorem dX8_codeNow_50 : decode cX8_codeNow 50 = .ok (.if_icmp .ge 8, 3) := by decide +kernel
theorem dX8_codeNow_53 : decode cX8_codeNow 53 = .ok (.bipush 61, 2) := by decide +kernel
theorem dX8_codeNow_55 : decode cX8_codeNow 55 = .ok (.goto 17, 3) := by decide +kernel
theorem dX8_codeNow_58 : decode cX8_codeNow 58 = .ok (.bipush 65, 2) := by decide +kernel
theorem dX8_codeNow_60 : decode cX8_codeNow 60 = .ok (.iload 4, 2) := by decide +kernel
theorem dX8_codeNow_62 : decode cX8_codeNow 62 = .ok (.sipush 1000, 3) := by decide +kernel
theorem dX8_codeNow_65 : decode cX8_codeNow 65 = .ok (.isub, 1) := by decide +kernel
theorem dX8_codeNow_66 : decode cX8_codeNow 66 = .ok (.bipush 10, 2) := by decide +kernel
theorem dX8_codeNow_68 : decode cX8_codeNow 68 = .ok (.idiv, 1) := by decide +kernel
theorem dX8_codeNow_69 : decode cX8_codeNow 69 = .ok (.iadd, 1) := by decide +kernel
theorem dX8_codeNow_70 : decode cX8_codeNow 70 = .ok (.iconst 1, 1) := by decide +kernel
theorem dX8_codeNow_71 : decode cX8_codeNow 71 = .ok (.isub, 1) := by decide +kernel
theorem dX8_codeNow_72 : decode cX8_codeNow 72 = .ok (.ireturn, 1) := by decide +kernel
theorem dX8_codeNow_73 : decode cX8_codeNow 73 = .ok (.iload 4, 2) := by decide +kernel
theorem dX8_codeNow_75 : decode cX8_codeNow 75 = .ok (.bipush 100, 2) := by decide +kernel
theorem dX8_codeNow_77 : decode cX8_codeNow 77 = .ok (.if_icmp .lt 19, 3) := by decide +kernel
theorem dX8_codeNow_80 : decode cX8_codeNow 80 = .ok (.iload_n 2, 1) := by decide +kernel
theorem dX8_codeNow_81 : decode cX8_codeNow 81 = .ok (.iconst 1, 1) := by decide +kernel
theorem dX8_codeNow_82 : decode cX8_codeNow 82 = .ok (.iadd, 1) := by decide +kernel
theorem dX8_codeNow_83 : decode cX8_codeNow 83 = .ok (.iload_n 1, 1) := by decide +kernel
theorem dX8_codeNow_84 : decode cX8_codeNow 84 = .ok (.if_icmp .ne 12, 3) := by decide +kernel
theorem dX8_codeNow_87 : decode cX8_codeNow 87 = .ok (.bipush 48, 2) := by decide +kernel
theorem dX8_codeNow_89 : decode cX8_codeNow 89 = .ok (.iload 4, 2) := by decide +kernel
theorem dX8_codeNow_91 : decode cX8_codeNow 91 = .ok (.bipush 10, 2) := by decide +kernel
theorem dX8_codeNow_93 : decode cX8_codeNow 93 = .ok (.irem, 1) := by decide +kernel
theorem dX8_codeNow_94 : decode cX8_codeNow 94 = .ok (.iadd, 1) := by decide +kernel
theorem dX8_codeNow_95 : decode cX8_codeNow 95 = .ok (.ireturn, 1) := by decide +kernel
theorem dX8_codeNow_96 : decode cX8_codeNow 96 = .ok (.iload_n 2, 1) := by decide +kernel
theorem dX8_codeNow_97 : decode cX8_codeNow 97 = .ok (.iload 4, 2) := by decide +kernel
theorem dX8_codeNow_99 : decode cX8_codeNow 99 = .ok (.bipush 100, 2) := by decide +kernel
theorem dX8_codeNow_101 : decode cX8_codeNow 101 = .ok (.if_icmp .ge 7, 3) := by decide +kernel
theorem dX8_codeNow_104 : decode cX8_codeNow 104 = .ok (.iconst 1, 1) := by decide +kernel
theorem dX8_codeNow_105 : decode cX8_codeNow 105 = .ok (.goto 4, 3) := by decide +kernel
theorem dX8_codeNow_108 : decode cX8_codeNow 108 = .ok (.iconst 2, 1) := by decide +kernel
theorem dX8_codeNow_109 : decode cX8_codeNow 109 = .ok (.iadd, 1) := by decide +kernel
theorem dX8_codeNow_110 : decode cX8_codeNow 110 = .ok (.istore_n 2, 1) := by decide +kernel
theorem dX8_codeNow_111 : decode cX8_codeNow 111 = .ok (.iinc 3 1, 3) := by decide +kernel
theorem dX8_codeNow_114 : decode cX8_codeNow 114 = .ok (.goto (-110), 3) := by decide +kernel
theorem dX8_codeNow_117 : decode cX8_codeNow 117 = .ok (.iconst (-1), 1) := by decide +kernel
theorem dX8_codeNow_118 : decode cX8_codeNow 118 = .ok (.ireturn, 1) := by decide +kernel
theorem dX8_codeOf_0 : decode cX8_codeOf 0 = .ok (.aload_n 0, 1) := by decide +kernel
theorem dX8_codeOf_1 : decode cX8_codeOf 1 = .ok (.getfield 92, 3) := by decide +kernel
theorem dX8_codeOf_4 : decode cX8_codeOf 4 = .ok (.ifCond .ne 7, 3) := by decide +kernel
theorem dX8_codeOf_7 : decode cX8_codeOf 7 = .ok (.sipush (-1003), 3) := by decide +kernel
theorem dX8_codeOf_10 : decode cX8_codeOf 10 = .ok (.ireturn, 1) := by decide +kernel
theorem dX8_codeOf_11 : decode cX8_codeOf 11 = .ok (.aload_n 0, 1) := by decide +kernel
theorem dX8_codeOf_12 : decode cX8_codeOf 12 = .ok (.invokevirtual 142, 3) := by decide +kernel
theorem dX8_codeOf_15 : decode cX8_codeOf 15 = .ok (.aload_n 0, 1) := by decide +kernel
theorem dX8_codeOf_16 : decode cX8_codeOf 16 = .ok (.iload_n 1, 1) := by decide +kernel
theorem dX8_codeOf_17 : decode cX8_codeOf 17 = .ok (.invokevirtual 148, 3) := by decide +kernel
theorem dX8_codeOf_20 : decode cX8_codeOf 20 = .ok (.ireturn, 1) := by decide +kernel
theorem dX8_greedyNow_0 : decode cX8_greedyNow 0 = .ok (.iconst 0, 1) := by decide +kernel
theorem dX8_greedyNow_1 : decode cX8_greedyNow 1 = .ok (.istore_n 2, 1) := by decide +kernel
theorem dX8_greedyNow_2 : decode cX8_greedyNow 2 = .ok (.iconst 0, 1) := by decide +kernel
theorem dX8_greedyNow_3 : decode cX8_greedyNow 3 = .ok (.istore_n 3, 1) := by decide +kernel
theorem dX8_greedyNow_4 : decode cX8_greedyNow 4 = .ok (.iconst 0, 1) := by decide +kernel
theorem dX8_greedyNow_5 : decode cX8_greedyNow 5 = .ok (.istore 4, 2) := by decide +kernel
theorem dX8_greedyNow_7 : decode cX8_greedyNow 7 = .ok (.iconst 0, 1) := by decide +kernel
theorem dX8_greedyNow_8 : decode cX8_greedyNow 8 = .ok (.istore 5, 2) := by decide +kernel
theorem dX8_greedyNow_10 : decode cX8_greedyNow 10 = .ok (.iload 5, 2) := by decide +kernel
theorem dX8_greedyNow_12 : decode cX8_greedyNow 12 = .ok (.aload_n 0, 1) := by decide +kernel
theorem dX8_greedyNow_13 : decode cX8_greedyNow 13 = .ok (.getfield 92, 3) := by decide +kernel
theorem dX8_greedyNow_16 : decode cX8_greedyNow 16 = .ok (.if_icmp .ge 108, 3) := by decide +kernel
theorem dX8_greedyNow_19 : decode cX8_greedyNow 19 = .ok (.aload_n 0, 1) := by decide +kernel
theorem dX8_greedyNow_20 : decode cX8_greedyNow 20 = .ok (.iload 5, 2) := by decide +kernel
theorem dX8_greedyNow_22 : decode cX8_greedyNow 22 = .ok (.invokevirtual 112, 3) := by decide +kernel
theorem dX8_greedyNow_25 : decode cX8_greedyNow 25 = .ok (.istore 6, 2) := by decide +kernel
theorem dX8_greedyNow_27 : decode cX8_greedyNow 27 = .ok (.iload 6, 2) := by decide +kernel
theorem dX8_greedyNow_29 : decode cX8_greedyNow 29 = .ok (.ifCond .ne 7, 3) := by decide +kernel
theorem dX8_greedyNow_32 : decode cX8_greedyNow 32 = .ok (.iconst 1, 1) := by decide +kernel
theorem dX8_greedyNow_33 : decode cX8_greedyNow 33 = .ok (.goto 15, 3) := by decide +kernel
theorem dX8_greedyNow_36 : decode cX8_greedyNow 36 = .ok (.aload_n 0, 1) := by decide +kernel
theorem dX8_greedyNow_37 : decode cX8_greedyNow 37 = .ok (.iload 5, 2) := by decide +kernel
theorem dX8_greedyNow_39 : decode cX8_greedyNow 39 = .ok (.iload 6, 2) := by decide +kernel
theorem dX8_greedyNow_41 : decode cX8_greedyNow 41 = .ok (.aload_n 0, 1) := by decide +kernel
theorem dX8_greedyNow_42 : decode cX8_greedyNow 42 = .ok (.getfield 92, 3) := by decide +kernel
theorem dX8_greedyNow_45 : decode cX8_greedyNow 45 = .ok (.invokevirtual 108, 3) := by decide +kernel
theorem dX8_greedyNow_48 : decode cX8_greedyNow 48 = .ok (.istore 7, 2) := by decide +kernel
theorem dX8_greedyNow_50 : decode cX8_greedyNow 50 = .ok (.iload_n 2, 1) := by decide +kernel
theorem dX8_greedyNow_51 : decode cX8_greedyNow 51 = .ok (.iload 6, 2) := by decide +kernel
theorem dX8_greedyNow_53 : decode cX8_greedyNow 53 = .ok (.ifCond .ne 18, 3) := by decide +kernel
theorem dX8_greedyNow_56 : decode cX8_greedyNow 56 = .ok (.aload_n 0, 1) := by decide +kernel
theorem dX8_greedyNow_57 : decode cX8_greedyNow 57 = .ok (.getfield 16, 3) := by decide +kernel
theorem dX8_greedyNow_60 : decode cX8_greedyNow 60 = .ok (.aload_n 0, 1) := by decide +kernel
theorem dX8_greedyNow_61 : decode cX8_greedyNow 61 = .ok (.getfield 13, 3) := by decide +kernel
theorem dX8_greedyNow_64 : decode cX8_greedyNow 64 = .ok (.iload 5, 2) := by decide +kernel
theorem dX8_greedyNow_66 : decode cX8_greedyNow 66 = .ok (.iaload, 1) := by decide +kernel
theorem dX8_greedyNow_67 : decode cX8_greedyNow 67 = .ok (.iaload, 1) := by decide +kernel
theorem dX8_greedyNow_68 : decode cX8_greedyNow 68 = .ok (.goto 27, 3) := by decide +kernel
theorem dX8_greedyNow_71 : decode cX8_greedyNow 71 = .ok (.iload 6, 2) := by decide +kernel
theorem dX8_greedyNow_73 : decode cX8_greedyNow 73 = .ok (.iload 4, 2) := by decide +kernel
theorem dX8_greedyNow_75 : decode cX8_greedyNow 75 = .ok (.if_icmp .ne 12, 3) := by decide +kernel
theorem dX8_greedyNow_78 : decode cX8_greedyNow 78 = .ok (.aload_n 0, 1) := by decide +kernel
theorem dX8_greedyNow_79 : decode cX8_greedyNow 79 = .ok (.iload 7, 2) := by decide +kernel
theorem dX8_greedyNow_81 : decode cX8_greedyNow 81 = .ok (.invokevirtual 78, 3) := by decide +kernel
theorem dX8_greedyNow_84 : decode cX8_greedyNow 84 = .ok (.goto 11, 3) := by decide +kernel
theorem dX8_greedyNow_87 : decode cX8_greedyNow 87 = .ok (.aload_n 0, 1) := by decide +kernel
theorem dX8_greedyNow_88 : decode cX8_greedyNow 88 = .ok (.iload 6, 2) := by decide +kernel
theorem dX8_greedyNow_90 : decode cX8_greedyNow 90 = .ok (.iload 7, 2) := by decide +kernel
theorem dX8_greedyNow_92 : decode cX8_greedyNow 92 = .ok (.invokevirtual 81, 3) := by decide +kernel
theorem dX8_greedyNow_95 : decode cX8_greedyNow 95 = .ok (.iadd, 1) := by decide +kernel
theorem dX8_greedyNow_96 : decode cX8_greedyNow 96 = .ok (.istore_n 2, 1) := by decide +kernel
theorem dX8_greedyNow_97 : decode cX8_greedyNow 97 = .ok (.iload 6, 2) := by decide +kernel
theorem dX8_greedyNow_99 : decode cX8_greedyNow 99 = .ok (.ifCond .ne 8, 3) := by decide +kernel
theorem dX8_greedyNow_102 : decode cX8_greedyNow 102 = .ok (.iload 4, 2) := by decide +kernel
theorem dX8_greedyNow_104 : decode cX8_greedyNow 104 = .ok (.goto 5, 3) := by decide +kernel
theorem dX8_greedyNow_107 : decode cX8_greedyNow 107 = .ok (.iload 6, 2) := by decide +kernel
theorem dX8_greedyNow_109 : decode cX8_greedyNow 109 = .ok (.istore 4, 2) := by decide +kernel
theorem dX8_greedyNow_111 : decode cX8_greedyNow 111 = .ok (.iload 5, 2) := by decide +kernel
theorem dX8_greedyNow_113 : decode cX8_greedyNow 113 = .ok (.iload 7, 2) := by decide +kernel
theorem dX8_greedyNow_115 : decode cX8_greedyNow 115 = .ok (.iadd, 1) := by decide +kernel
theorem dX8_greedyNow_116 : decode cX8_greedyNow 116 = .ok (.istore 5, 2) := by decide +kernel
theorem dX8_greedyNow_118 : decode cX8_greedyNow 118 = .ok (.iinc 3 1, 3) := by decide +kernel
theorem dX8_greedyNow_121 : decode cX8_greedyNow 121 = .ok (.goto (-111), 3) := by decide +kernel
theorem dX8_greedyNow_124 : decode cX8_greedyNow 124 = .ok (.iload_n 1, 1) := by decide +kernel
theorem dX8_greedyNow_125 : decode cX8_greedyNow 125 = .ok (.ifCond .ne 7, 3) := by decide +kernel
theorem dX8_greedyNow_128 : decode cX8_greedyNow 128 = .ok (.iload_n 2, 1) := by decide +kernel
theorem dX8_greedyNow_129 : decode cX8_greedyNow 129 = .ok (.goto 4, 3) := by decide +kernel
theorem dX8_greedyNow_132 : decode cX8_greedyNow 132 = .ok (.iload_n 3, 1) := by decide +kernel
theorem dX8_greedyNow_133 : decode cX8_greedyNow 133 = .ok (.ireturn, 1) := by decide +kernel
theorem dX8_greedy_0 : decode cX8_greedy 0 = .ok (.aload_n 0, 1) := by decide +kernel
theorem dX8_greedy_1 : decode cX8_greedy 1 = .ok (.getfield 92, 3) := by decide +kernel
theorem dX8_greedy_4 : decode cX8_greedy 4 = .ok (.ifCond .ne 7, 3) := by decide +kernel
theorem dX8_greedy_7 : decode cX8_greedy 7 = .ok (.sipush (-1003), 3) := by decide +kernel
theorem dX8_greedy_10 : decode cX8_greedy 10 = .ok (.ireturn, 1) := by decide +kernel
theorem dX8_greedy_11 : decode cX8_greedy 11 = .ok (.iload_n 1, 1) := by decide +kernel
theorem dX8_greedy_12 : decode cX8_greedy 12 = .ok (.iconst 0, 1) := by decide +kernel
theorem dX8_greedy_13 : decode cX8_greedy 13 = .ok (.iconst 1, 1) := by decide +kernel
theorem dX8_greedy_14 : decode cX8_greedy 14 = .ok (.invokestatic 49, 3) := by decide +kernel
theorem dX8_greedy_17 : decode cX8_greedy 17 = .ok (.ifCond .eq 11, 3) := by decide +kernel
theorem dX8_greedy_20 : decode cX8_greedy 20 = .ok (.aload_n 0, 1) := by decide +kernel
theorem dX8_greedy_21 : decode cX8_greedy 21 = .ok (.iload_n 1, 1) := by decide +kernel
theorem dX8_greedy_22 : decode cX8_greedy 22 = .ok (.invokevirtual 151, 3) := by decide +kernel
theorem dX8_greedy_25 : decode cX8_greedy 25 = .ok (.goto 6, 3) := by decide +kernel
theorem dX8_greedy_28 : decode cX8_greedy 28 = .ok (.sipush (-1002), 3) := by decide +kernel
theorem dX8_greedy_31 : decode cX8_greedy 31 = .ok (.ireturn, 1) := by decide +kernel
theorem dX8_partsPrice_0 : decode cX8_partsPrice 0 = .ok (.iconst 0, 1) := by decide +kernel
theorem dX8_partsPrice_1 : decode cX8_partsPrice 1 = .ok (.istore_n 2, 1) := by decide +kernel
theorem dX8_partsPrice_2 : decode cX8_partsPrice 2 = .ok (.iconst 0, 1) := by decide +kernel
theorem dX8_partsPrice_3 : decode cX8_partsPrice 3 = .ok (.istore_n 3, 1) := by decide +kernel
theorem dX8_partsPrice_4 : decode cX8_partsPrice 4 = .ok (.iload_n 3, 1) := by decide +kernel
theorem dX8_partsPrice_5 : decode cX8_partsPrice 5 = .ok (.aload_n 0, 1) := by decide +kernel
theorem dX8_partsPrice_6 : decode cX8_partsPrice 6 = .ok (.getfield 92, 3) := by decide +kernel
theorem dX8_partsPrice_9 : decode cX8_partsPrice 9 = .ok (.if_icmp .ge 38, 3) := by decide +kernel
theorem dX8_partsPrice_12 : decode cX8_partsPrice 12 = .ok (.iload_n 2, 1) := by decide +kernel
theorem dX8_partsPrice_13 : decode cX8_partsPrice 13 = .ok (.aload_n 0, 1) := by decide +kernel
theorem dX8_partsPrice_14 : decode cX8_partsPrice 14 = .ok (.iload_n 3, 1) := by decide +kernel
theorem dX8_partsPrice_15 : decode cX8_partsPrice 15 = .ok (.iload_n 3, 1) := by decide +kernel
theorem dX8_partsPrice_16 : decode cX8_partsPrice 16 = .ok (.iload_n 1, 1) := by decide +kernel
theorem dX8_partsPrice_17 : decode cX8_partsPrice 17 = .ok (.iadd, 1) := by decide +kernel
theorem dX8_partsPrice_18 : decode cX8_partsPrice 18 = .ok (.aload_n 0, 1) := by decide +kernel
theorem dX8_partsPrice_19 : decode cX8_partsPrice 19 = .ok (.getfield 92, 3) := by decide +kernel
theorem dX8_partsPrice_22 : decode cX8_partsPrice 22 = .ok (.if_icmp .ge 7, 3) := by decide +kernel
theorem dX8_partsPrice_25 : decode cX8_partsPrice 25 = .ok (.iload_n 1, 1) := by decide +kernel
theorem dX8_partsPrice_26 : decode cX8_partsPrice 26 = .ok (.goto 9, 3) := by decide +kernel
theorem dX8_partsPrice_29 : decode cX8_partsPrice 29 = .ok (.aload_n 0, 1) := by decide +kernel
theorem dX8_partsPrice_30 : decode cX8_partsPrice 30 = .ok (.getfield 92, 3) := by decide +kernel
theorem dX8_partsPrice_33 : decode cX8_partsPrice 33 = .ok (.iload_n 3, 1) := by decide +kernel
theorem dX8_partsPrice_34 : decode cX8_partsPrice 34 = .ok (.isub, 1) := by decide +kernel
theorem dX8_partsPrice_35 : decode cX8_partsPrice 35 = .ok (.invokevirtual 130, 3) := by decide +kernel
theorem dX8_partsPrice_38 : decode cX8_partsPrice 38 = .ok (.iadd, 1) := by decide +kernel
theorem dX8_partsPrice_39 : decode cX8_partsPrice 39 = .ok (.istore_n 2, 1) := by decide +kernel
theorem dX8_partsPrice_40 : decode cX8_partsPrice 40 = .ok (.iload_n 3, 1) := by decide +kernel
theorem dX8_partsPrice_41 : decode cX8_partsPrice 41 = .ok (.iload_n 1, 1) := by decide +kernel
theorem dX8_partsPrice_42 : decode cX8_partsPrice 42 = .ok (.iadd, 1) := by decide +kernel
theorem dX8_partsPrice_43 : decode cX8_partsPrice 43 = .ok (.istore_n 3, 1) := by decide +kernel
theorem dX8_partsPrice_44 : decode cX8_partsPrice 44 = .ok (.goto (-40), 3) := by decide +kernel
theorem dX8_partsPrice_47 : decode cX8_partsPrice 47 = .ok (.iload_n 2, 1) := by decide +kernel
theorem dX8_partsPrice_48 : decode cX8_partsPrice 48 = .ok (.ireturn, 1) := by decide +kernel
theorem dX8_partsNow_0 : decode cX8_partsNow 0 = .ok (.iload_n 2, 1) := by decide +kernel
theorem dX8_partsNow_1 : decode cX8_partsNow 1 = .ok (.iconst 1, 1) := by decide +kernel
theorem dX8_partsNow_2 : decode cX8_partsNow 2 = .ok (.if_icmp .ne 14, 3) := by decide +kernel
theorem dX8_partsNow_5 : decode cX8_partsNow 5 = .ok (.aload_n 0, 1) := by decide +kernel
theorem dX8_partsNow_6 : decode cX8_partsNow 6 = .ok (.getfield 92, 3) := by decide +kernel
theorem dX8_partsNow_9 : decode cX8_partsNow 9 = .ok (.iload_n 1, 1) := by decide +kernel
theorem dX8_partsNow_10 : decode cX8_partsNow 10 = .ok (.iadd, 1) := by decide +kernel
theorem dX8_partsNow_11 : decode cX8_partsNow 11 = .ok (.iconst 1, 1) := by decide +kernel
theorem dX8_partsNow_12 : decode cX8_partsNow 12 = .ok (.isub, 1) := by decide +kernel
theorem dX8_partsNow_13 : decode cX8_partsNow 13 = .ok (.iload_n 1, 1) := by decide +kernel
theorem dX8_partsNow_14 : decode cX8_partsNow 14 = .ok (.idiv, 1) := by decide +kernel
theorem dX8_partsNow_15 : decode cX8_partsNow 15 = .ok (.ireturn, 1) := by decide +kernel
theorem dX8_partsNow_16 : decode cX8_partsNow 16 = .ok (.aload_n 0, 1) := by decide +kernel
theorem dX8_partsNow_17 : decode cX8_partsNow 17 = .ok (.iload_n 1, 1) := by decide +kernel
theorem dX8_partsNow_18 : decode cX8_partsNow 18 = .ok (.invokevirtual 154, 3) := by decide +kernel
theorem dX8_partsNow_21 : decode cX8_partsNow 21 = .ok (.istore_n 3, 1) := by decide +kernel
theorem dX8_partsNow_22 : decode cX8_partsNow 22 = .ok (.iload_n 2, 1) := by decide +kernel
theorem dX8_partsNow_23 : decode cX8_partsNow 23 = .ok (.ifCond .ne 7, 3) := by decide +kernel
theorem dX8_partsNow_26 : decode cX8_partsNow 26 = .ok (.iload_n 3, 1) := by decide +kernel
theorem dX8_partsNow_27 : decode cX8_partsNow 27 = .ok (.goto 14, 3) := by decide +kernel
theorem dX8_partsNow_30 : decode cX8_partsNow 30 = .ok (.iload_n 3, 1) := by decide +kernel
theorem dX8_partsNow_31 : decode cX8_partsNow 31 = .ok (.aload_n 0, 1) := by decide +kernel
theorem dX8_partsNow_32 : decode cX8_partsNow 32 = .ok (.iconst 0, 1) := by decide +kernel
theorem dX8_partsNow_33 : decode cX8_partsNow 33 = .ok (.aload_n 0, 1) := by decide +kernel
theorem dX8_partsNow_34 : decode cX8_partsNow 34 = .ok (.getfield 92, 3) := by decide +kernel
theorem dX8_partsNow_37 : decode cX8_partsNow 37 = .ok (.invokevirtual 130, 3) := by decide +kernel
theorem dX8_partsNow_40 : decode cX8_partsNow 40 = .ok (.isub, 1) := by decide +kernel
theorem dX8_partsNow_41 : decode cX8_partsNow 41 = .ok (.ireturn, 1) := by decide +kernel
theorem dX8_parts_0 : decode cX8_parts 0 = .ok (.aload_n 0, 1) := by decide +kernel
theorem dX8_parts_1 : decode cX8_parts 1 = .ok (.getfield 92, 3) := by decide +kernel
theorem dX8_parts_4 : decode cX8_parts 4 = .ok (.ifCond .ne 7, 3) := by decide +kernel
theorem dX8_parts_7 : decode cX8_parts 7 = .ok (.sipush (-1003), 3) := by decide +kernel
theorem dX8_parts_10 : decode cX8_parts 10 = .ok (.ireturn, 1) := by decide +kernel
theorem dX8_parts_11 : decode cX8_parts 11 = .ok (.iload_n 1, 1) := by decide +kernel
theorem dX8_parts_12 : decode cX8_parts 12 = .ok (.iconst 1, 1) := by decide +kernel
theorem dX8_parts_13 : decode cX8_parts 13 = .ok (.bipush 24, 2) := by decide +kernel
theorem dX8_parts_15 : decode cX8_parts 15 = .ok (.invokestatic 49, 3) := by decide +kernel
theorem dX8_parts_18 : decode cX8_parts 18 = .ok (.ifCond .eq 21, 3) := by decide +kernel
theorem dX8_parts_21 : decode cX8_parts 21 = .ok (.iload_n 2, 1) := by decide +kernel
theorem dX8_parts_22 : decode cX8_parts 22 = .ok (.iconst 0, 1) := by decide +kernel
theorem dX8_parts_23 : decode cX8_parts 23 = .ok (.iconst 2, 1) := by decide +kernel
theorem dX8_parts_24 : decode cX8_parts 24 = .ok (.invokestatic 49, 3) := by decide +kernel
theorem dX8_parts_27 : decode cX8_parts 27 = .ok (.ifCond .eq 12, 3) := by decide +kernel
theorem dX8_parts_30 : decode cX8_parts 30 = .ok (.aload_n 0, 1) := by decide +kernel
theorem dX8_parts_31 : decode cX8_parts 31 = .ok (.iload_n 1, 1) := by decide +kernel
theorem dX8_parts_32 : decode cX8_parts 32 = .ok (.iload_n 2, 1) := by decide +kernel
theorem dX8_parts_33 : decode cX8_parts 33 = .ok (.invokevirtual 157, 3) := by decide +kernel
theorem dX8_parts_36 : decode cX8_parts 36 = .ok (.goto 6, 3) := by decide +kernel
theorem dX8_parts_39 : decode cX8_parts 39 = .ok (.sipush (-1002), 3) := by decide +kernel
theorem dX8_parts_42 : decode cX8_parts 42 = .ok (.ireturn, 1) := by decide +kernel
theorem dX8_log_0 : decode cX8_log 0 = .ok (.iconst 0, 1) := by decide +kernel
theorem dX8_log_1 : decode cX8_log 1 = .ok (.istore_n 1, 1) := by decide +kernel
theorem dX8_log_2 : decode cX8_log 2 = .ok (.iload_n 0, 1) := by decide +kernel
theorem dX8_log_3 : decode cX8_log 3 = .ok (.istore_n 2, 1) := by decide +kernel
theorem dX8_log_4 : decode cX8_log 4 = .ok (.iload_n 2, 1) := by decide +kernel
theorem dX8_log_5 : decode cX8_log 5 = .ok (.iconst 1, 1) := by decide +kernel
theorem dX8_log_6 : decode cX8_log 6 = .ok (.if_icmp .le 13, 3) := by decide +kernel
theorem dX8_log_9 : decode cX8_log 9 = .ok (.iinc 1 1, 3) := by decide +kernel
theorem dX8_log_12 : decode cX8_log 12 = .ok (.iload_n 2, 1) := by decide +kernel
theorem dX8_log_13 : decode cX8_log 13 = .ok (.iconst 2, 1) := by decide +kernel
theorem dX8_log_14 : decode cX8_log 14 = .ok (.idiv, 1) := by decide +kernel
theorem dX8_log_15 : decode cX8_log 15 = .ok (.istore_n 2, 1) := by decide +kernel
theorem dX8_log_16 : decode cX8_log 16 = .ok (.goto (-12), 3) := by decide +kernel
theorem dX8_log_19 : decode cX8_log 19 = .ok (.iload_n 1, 1) := by decide +kernel
theorem dX8_log_20 : decode cX8_log 20 = .ok (.ireturn, 1) := by decide +kernel
theorem dX8_layTaken_0 : decode cX8_layTaken 0 = .ok (.iconst 0, 1) := by decide +kernel
theorem dX8_layTaken_1 : decode cX8_layTaken 1 = .ok (.istore_n 1, 1) := by decide +kernel
theorem dX8_layTaken_2 : decode cX8_layTaken 2 = .ok (.iload_n 1, 1) := by decide +kernel
theorem dX8_layTaken_3 : decode cX8_layTaken 3 = .ok (.bipush 18, 2) := by decide +kernel
theorem dX8_layTaken_5 : decode cX8_layTaken 5 = .ok (.if_icmp .ge 16, 3) := by decide +kernel
theorem dX8_layTaken_8 : decode cX8_layTaken 8 = .ok (.aload_n 0, 1) := by decide +kernel
theorem dX8_layTaken_9 : decode cX8_layTaken 9 = .ok (.getfield 37, 3) := by decide +kernel
theorem dX8_layTaken_12 : decode cX8_layTaken 12 = .ok (.iload_n 1, 1) := by decide +kernel
theorem dX8_layTaken_13 : decode cX8_layTaken 13 = .ok (.iconst 0, 1) := by decide +kernel
theorem dX8_layTaken_14 : decode cX8_layTaken 14 = .ok (.iastore, 1) := by decide +kernel
theorem dX8_layTaken_15 : decode cX8_layTaken 15 = .ok (.iinc 1 1, 3) := by decide +kernel
theorem dX8_layTaken_18 : decode cX8_layTaken 18 = .ok (.goto (-16), 3) := by decide +kernel
theorem dX8_layTaken_21 : decode cX8_layTaken 21 = .ok (.iconst 0, 1) := by decide +kernel
theorem dX8_layTaken_22 : decode cX8_layTaken 22 = .ok (.istore_n 1, 1) := by decide +kernel
theorem dX8_layTaken_23 : decode cX8_layTaken 23 = .ok (.iload_n 1, 1) := by decide +kernel
theorem dX8_layTaken_24 : decode cX8_layTaken 24 = .ok (.aload_n 0, 1) := by decide +kernel
theorem dX8_layTaken_25 : decode cX8_layTaken 25 = .ok (.getfield 133, 3) := by decide +kernel
theorem dX8_layTaken_28 : decode cX8_layTaken 28 = .ok (.if_icmp .ge 104, 3) := by decide +kernel
theorem dX8_layTaken_31 : decode cX8_layTaken 31 = .ok (.aload_n 0, 1) := by decide +kernel
theorem dX8_layTaken_32 : decode cX8_layTaken 32 = .ok (.getfield 34, 3) := by decide +kernel
theorem dX8_layTaken_35 : decode cX8_layTaken 35 = .ok (.iload_n 1, 1) := by decide +kernel
theorem dX8_layTaken_36 : decode cX8_layTaken 36 = .ok (.iaload, 1) := by decide +kernel
theorem dX8_layTaken_37 : decode cX8_layTaken 37 = .ok (.istore_n 2, 1) := by decide +kernel
theorem dX8_layTaken_38 : decode cX8_layTaken 38 = .ok (.iload_n 2, 1) := by decide +kernel
theorem dX8_layTaken_39 : decode cX8_layTaken 39 = .ok (.bipush 100, 2) := by decide +kernel
theorem dX8_layTaken_41 : decode cX8_layTaken 41 = .ok (.if_icmp .ge 16, 3) := by decide +kernel
theorem dX8_layTaken_44 : decode cX8_layTaken 44 = .ok (.aload_n 0, 1) := by decide +kernel
theorem dX8_layTaken_45 : decode cX8_layTaken 45 = .ok (.getfield 37, 3) := by decide +kernel
theorem dX8_layTaken_48 : decode cX8_layTaken 48 = .ok (.iload_n 2, 1) := by decide +kernel
theorem dX8_layTaken_49 : decode cX8_layTaken 49 = .ok (.dup2, 1) := by decide +kernel
theorem dX8_layTaken_50 : decode cX8_layTaken 50 = .ok (.iaload, 1) := by decide +kernel
theorem dX8_layTaken_51 : decode cX8_layTaken 51 = .ok (.iconst 1, 1) := by decide +kernel
theorem dX8_layTaken_52 : decode cX8_layTaken 52 = .ok (.iadd, 1) := by decide +kernel
theorem dX8_layTaken_53 : decode cX8_layTaken 53 = .ok (.iastore, 1) := by decide +kernel
theorem dX8_layTaken_54 : decode cX8_layTaken 54 = .ok (.goto 43, 3) := by decide +kernel
theorem dX8_layTaken_57 : decode cX8_layTaken 57 = .ok (.aload_n 0, 1) := by decide +kernel
theorem dX8_layTaken_58 : decode cX8_layTaken 58 = .ok (.getfield 37, 3) := by decide +kernel
theorem dX8_layTaken_61 : decode cX8_layTaken 61 = .ok (.bipush 10, 2) := by decide +kernel
theorem dX8_layTaken_63 : decode cX8_layTaken 63 = .ok (.iload_n 2, 1) := by decide +kernel
theorem dX8_layTaken_64 : decode cX8_layTaken 64 = .ok (.bipush 10, 2) := by decide +kernel
theorem dX8_layTaken_66 : decode cX8_layTaken 66 = .ok (.irem, 1) := by decide +kernel
theorem dX8_layTaken_67 : decode cX8_layTaken 67 = .ok (.iadd, 1) := by decide +kernel
theorem dX8_layTaken_68 : decode cX8_layTaken 68 = .ok (.iconst 2, 1) := by decide +kernel
theorem dX8_layTaken_69 : decode cX8_layTaken 69 = .ok (.isub, 1) := by decide +kernel
theorem dX8_layTaken_70 : decode cX8_layTaken 70 = .ok (.dup2, 1) := by decide +kernel
theorem dX8_layTaken_71 : decode cX8_layTaken 71 = .ok (.iaload, 1) := by decide +kernel
theorem dX8_layTaken_72 : decode cX8_layTaken 72 = .ok (.iconst 1, 1) := by decide +kernel
theorem dX8_layTaken_73 : decode cX8_layTaken 73 = .ok (.iadd, 1) := by decide +kernel
theorem dX8_layTaken_74 : decode cX8_layTaken 74 = .ok (.iastore, 1) := by decide +kernel
theorem dX8_layTaken_75 : decode cX8_layTaken 75 = .ok (.aload_n 0, 1) := by decide +kernel
theorem dX8_layTaken_76 : decode cX8_layTaken 76 = .ok (.getfield 37, 3) := by decide +kernel
theorem dX8_layTaken_79 : decode cX8_layTaken 79 = .ok (.iload_n 2, 1) := by decide +kernel
theorem dX8_layTaken_80 : decode cX8_layTaken 80 = .ok (.sipush 1000, 3) := by decide +kernel
theorem dX8_layTaken_83 : decode cX8_layTaken 83 = .ok (.if_icmp .ge 8, 3) := by decide +kernel
theorem dX8_layTaken_86 : decode cX8_layTaken 86 = .ok (.bipush 17, 2) := by decide +kernel
theorem dX8_layTaken_88 : decode cX8_layTaken 88 = .ok (.goto 4, 3) := by decide +kernel
theorem dX8_layTaken_91 : decode cX8_layTaken 91 = .ok (.iconst 4, 1) := by decide +kernel
theorem dX8_layTaken_92 : decode cX8_layTaken 92 = .ok (.dup2, 1) := by decide +kernel
theorem dX8_layTaken_93 : decode cX8_layTaken 93 = .ok (.iaload, 1) := by decide +kernel
theorem dX8_layTaken_94 : decode cX8_layTaken 94 = .ok (.iconst 1, 1) := by decide +kernel
theorem dX8_layTaken_95 : decode cX8_layTaken 95 = .ok (.iadd, 1) := by decide +kernel
theorem dX8_layTaken_96 : decode cX8_layTaken 96 = .ok (.iastore, 1) := by decide +kernel
theorem dX8_layTaken_97 : decode cX8_layTaken 97 = .ok (.iload_n 2, 1) := by decide +kernel
theorem dX8_layTaken_98 : decode cX8_layTaken 98 = .ok (.sipush 1000, 3) := by decide +kernel
theorem dX8_layTaken_101 : decode cX8_layTaken 101 = .ok (.if_icmp .lt 25, 3) := by decide +kernel
theorem dX8_layTaken_104 : decode cX8_layTaken 104 = .ok (.aload_n 0, 1) := by decide +kernel
theorem dX8_layTaken_105 : decode cX8_layTaken 105 = .ok (.getfield 37, 3) := by decide +kernel
theorem dX8_layTaken_108 : decode cX8_layTaken 108 = .ok (.iconst 5, 1) := by decide +kernel
theorem dX8_layTaken_109 : decode cX8_layTaken 109 = .ok (.iload_n 2, 1) := by decide +kernel
theorem dX8_layTaken_110 : decode cX8_layTaken 110 = .ok (.sipush 1000, 3) := by decide +kernel
theorem dX8_layTaken_113 : decode cX8_layTaken 113 = .ok (.isub, 1) := by decide +kernel
theorem dX8_layTaken_114 : decode cX8_layTaken 114 = .ok (.bipush 10, 2) := by decide +kernel
theorem dX8_layTaken_116 : decode cX8_layTaken 116 = .ok (.idiv, 1) := by decide +kernel
theorem dX8_layTaken_117 : decode cX8_layTaken 117 = .ok (.invokestatic 57, 3) := by decide +kernel
theorem dX8_layTaken_120 : decode cX8_layTaken 120 = .ok (.iadd, 1) := by decide +kernel
theorem dX8_layTaken_121 : decode cX8_layTaken 121 = .ok (.dup2, 1) := by decide +kernel
theorem dX8_layTaken_122 : decode cX8_layTaken 122 = .ok (.iaload, 1) := by decide +kernel
theorem dX8_layTaken_123 : decode cX8_layTaken 123 = .ok (.iconst 1, 1) := by decide +kernel
theorem dX8_layTaken_124 : decode cX8_layTaken 124 = .ok (.iadd, 1) := by decide +kernel
theorem dX8_layTaken_125 : decode cX8_layTaken 125 = .ok (.iastore, 1) := by decide +kernel
theorem dX8_layTaken_126 : decode cX8_layTaken 126 = .ok (.iinc 1 1, 3) := by decide +kernel
theorem dX8_layTaken_129 : decode cX8_layTaken 129 = .ok (.goto (-106), 3) := by decide +kernel
theorem dX8_layTaken_132 : decode cX8_layTaken 132 = .ok (.return_, 1) := by decide +kernel
theorem dX8_sum_0 : decode cX8_sum 0 = .ok (.iconst 0, 1) := by decide +kernel
theorem dX8_sum_1 : decode cX8_sum 1 = .ok (.istore_n 3, 1) := by decide +kernel
theorem dX8_sum_2 : decode cX8_sum 2 = .ok (.iload_n 1, 1) := by decide +kernel
theorem dX8_sum_3 : decode cX8_sum 3 = .ok (.istore 4, 2) := by decide +kernel
theorem dX8_sum_5 : decode cX8_sum 5 = .ok (.iload 4, 2) := by decide +kernel
theorem dX8_sum_7 : decode cX8_sum 7 = .ok (.iload_n 2, 1) := by decide +kernel
theorem dX8_sum_8 : decode cX8_sum 8 = .ok (.if_icmp .ge 19, 3) := by decide +kernel
theorem dX8_sum_11 : decode cX8_sum 11 = .ok (.iload_n 3, 1) := by decide +kernel
theorem dX8_sum_12 : decode cX8_sum 12 = .ok (.aload_n 0, 1) := by decide +kernel
theorem dX8_sum_13 : decode cX8_sum 13 = .ok (.getfield 37, 3) := by decide +kernel
theorem dX8_sum_16 : decode cX8_sum 16 = .ok (.iload 4, 2) := by decide +kernel
theorem dX8_sum_18 : decode cX8_sum 18 = .ok (.iaload, 1) := by decide +kernel
theorem dX8_sum_19 : decode cX8_sum 19 = .ok (.iadd, 1) := by decide +kernel
theorem dX8_sum_20 : decode cX8_sum 20 = .ok (.istore_n 3, 1) := by decide +kernel
theorem dX8_sum_21 : decode cX8_sum 21 = .ok (.iinc 4 1, 3) := by decide +kernel
theorem dX8_sum_24 : decode cX8_sum 24 = .ok (.goto (-19), 3) := by decide +kernel
theorem dX8_sum_27 : decode cX8_sum 27 = .ok (.iload_n 3, 1) := by decide +kernel
theorem dX8_sum_28 : decode cX8_sum 28 = .ok (.ireturn, 1) := by decide +kernel
theorem dX8_layThen_0 : decode cX8_layThen 0 = .ok (.aload_n 0, 1) := by decide +kernel
theorem dX8_layThen_1 : decode cX8_layThen 1 = .ok (.invokevirtual 142, 3) := by decide +kernel
theorem dX8_layThen_4 : decode cX8_layThen 4 = .ok (.aload_n 0, 1) := by decide +kernel
theorem dX8_layThen_5 : decode cX8_layThen 5 = .ok (.invokevirtual 160, 3) := by decide +kernel
theorem dX8_layThen_8 : decode cX8_layThen 8 = .ok (.iconst 0, 1) := by decide +kernel
theorem dX8_layThen_9 : decode cX8_layThen 9 = .ok (.istore_n 1, 1) := by decide +kernel
theorem dX8_layThen_10 : decode cX8_layThen 10 = .ok (.iconst 0, 1) := by decide +kernel
theorem dX8_layThen_11 : decode cX8_layThen 11 = .ok (.istore_n 2, 1) := by decide +kernel
theorem dX8_layThen_12 : decode cX8_layThen 12 = .ok (.iload_n 2, 1) := by decide +kernel
theorem dX8_layThen_13 : decode cX8_layThen 13 = .ok (.bipush 18, 2) := by decide +kernel
theorem dX8_layThen_15 : decode cX8_layThen 15 = .ok (.if_icmp .ge 126, 3) := by decide +kernel
theorem dX8_layThen_18 : decode cX8_layThen 18 = .ok (.iload_n 2, 1) := by decide +kernel
theorem dX8_layThen_19 : decode cX8_layThen 19 = .ok (.iconst 4, 1) := by decide +kernel
theorem dX8_layThen_20 : decode cX8_layThen 20 = .ok (.if_icmp .ge 14, 3) := by decide +kernel
theorem dX8_layThen_23 : decode cX8_layThen 23 = .ok (.aload_n 0, 1) := by decide +kernel
theorem dX8_layThen_24 : decode cX8_layThen 24 = .ok (.iconst 0, 1) := by decide +kernel
theorem dX8_layThen_25 : decode cX8_layThen 25 = .ok (.iconst 4, 1) := by decide +kernel
theorem dX8_layThen_26 : decode cX8_layThen 26 = .ok (.invokevirtual 163, 3) := by decide +kernel
theorem dX8_layThen_29 : decode cX8_layThen 29 = .ok (.iconst 4, 1) := by decide +kernel
theorem dX8_layThen_30 : decode cX8_layThen 30 = .ok (.iadd, 1) := by decide +kernel
theorem dX8_layThen_31 : decode cX8_layThen 31 = .ok (.goto 57, 3) := by decide +kernel
theorem dX8_layThen_34 : decode cX8_layThen 34 = .ok (.iload_n 2, 1) := by decide +kernel
theorem dX8_layThen_35 : decode cX8_layThen 35 = .ok (.iconst 4, 1) := by decide +kernel
theorem dX8_layThen_36 : decode cX8_layThen 36 = .ok (.if_icmp .eq 9, 3) := by decide +kernel
theorem dX8_layThen_39 : decode cX8_layThen 39 = .ok (.iload_n 2, 1) := by decide +kernel
theorem dX8_layThen_40 : decode cX8_layThen 40 = .ok (.bipush 17, 2) := by decide +kernel
theorem dX8_layThen_42 : decode cX8_layThen 42 = .ok (.if_icmp .ne 12, 3) := by decide +kernel
theorem dX8_layThen_45 : decode cX8_layThen 45 = .ok (.aload_n 0, 1) := by decide +kernel
theorem dX8_layThen_46 : decode cX8_layThen 46 = .ok (.getfield 133, 3) := by decide +kernel
theorem dX8_layThen_49 : decode cX8_layThen 49 = .ok (.iconst 3, 1) := by decide +kernel
theorem dX8_layThen_50 : decode cX8_layThen 50 = .ok (.iadd, 1) := by decide +kernel
theorem dX8_layThen_51 : decode cX8_layThen 51 = .ok (.goto 37, 3) := by decide +kernel
theorem dX8_layThen_54 : decode cX8_layThen 54 = .ok (.iload_n 2, 1) := by decide +kernel
theorem dX8_layThen_55 : decode cX8_layThen 55 = .ok (.bipush 10, 2) := by decide +kernel
theorem dX8_layThen_57 : decode cX8_layThen 57 = .ok (.if_icmp .ge 14, 3) := by decide +kernel
theorem dX8_layThen_60 : decode cX8_layThen 60 = .ok (.aload_n 0, 1) := by decide +kernel
theorem dX8_layThen_61 : decode cX8_layThen 61 = .ok (.getfield 37, 3) := by decide +kernel
theorem dX8_layThen_64 : decode cX8_layThen 64 = .ok (.iconst 4, 1) := by decide +kernel
theorem dX8_layThen_65 : decode cX8_layThen 65 = .ok (.iaload, 1) := by decide +kernel
theorem dX8_layThen_66 : decode cX8_layThen 66 = .ok (.iconst 5, 1) := by decide +kernel
theorem dX8_layThen_67 : decode cX8_layThen 67 = .ok (.iadd, 1) := by decide +kernel
theorem dX8_layThen_68 : decode cX8_layThen 68 = .ok (.goto 20, 3) := by decide +kernel
theorem dX8_layThen_71 : decode cX8_layThen 71 = .ok (.aload_n 0, 1) := by decide +kernel
theorem dX8_layThen_72 : decode cX8_layThen 72 = .ok (.getfield 37, 3) := by decide +kernel
theorem dX8_layThen_75 : decode cX8_layThen 75 = .ok (.iconst 4, 1) := by decide +kernel
theorem dX8_layThen_76 : decode cX8_layThen 76 = .ok (.iaload, 1) := by decide +kernel
theorem dX8_layThen_77 : decode cX8_layThen 77 = .ok (.aload_n 0, 1) := by decide +kernel
theorem dX8_layThen_78 : decode cX8_layThen 78 = .ok (.getfield 37, 3) := by decide +kernel
theorem dX8_layThen_81 : decode cX8_layThen 81 = .ok (.bipush 17, 2) := by decide +kernel
theorem dX8_layThen_83 : decode cX8_layThen 83 = .ok (.iaload, 1) := by decide +kernel
theorem dX8_layThen_84 : decode cX8_layThen 84 = .ok (.iadd, 1) := by decide +kernel
theorem dX8_layThen_85 : decode cX8_layThen 85 = .ok (.bipush 7, 2) := by decide +kernel
theorem dX8_layThen_87 : decode cX8_layThen 87 = .ok (.iadd, 1) := by decide +kernel
theorem dX8_layThen_88 : decode cX8_layThen 88 = .ok (.istore_n 3, 1) := by decide +kernel
theorem dX8_layThen_89 : decode cX8_layThen 89 = .ok (.aload_n 0, 1) := by decide +kernel
theorem dX8_layThen_90 : decode cX8_layThen 90 = .ok (.getfield 40, 3) := by decide +kernel
theorem dX8_layThen_93 : decode cX8_layThen 93 = .ok (.iload_n 2, 1) := by decide +kernel
theorem dX8_layThen_94 : decode cX8_layThen 94 = .ok (.iconst 1, 1) := by decide +kernel
theorem dX8_layThen_95 : decode cX8_layThen 95 = .ok (.iconst 2, 1) := by decide +kernel
theorem dX8_layThen_96 : decode cX8_layThen 96 = .ok (.iload_n 3, 1) := by decide +kernel
theorem dX8_layThen_97 : decode cX8_layThen 97 = .ok (.iconst 1, 1) := by decide +kernel
theorem dX8_layThen_98 : decode cX8_layThen 98 = .ok (.aload_n 0, 1) := by decide +kernel
theorem dX8_layThen_99 : decode cX8_layThen 99 = .ok (.getfield 37, 3) := by decide +kernel
theorem dX8_layThen_102 : decode cX8_layThen 102 = .ok (.iload_n 2, 1) := by decide +kernel
theorem dX8_layThen_103 : decode cX8_layThen 103 = .ok (.iaload, 1) := by decide +kernel
theorem dX8_layThen_104 : decode cX8_layThen 104 = .ok (.iadd, 1) := by decide +kernel
theorem dX8_layThen_105 : decode cX8_layThen 105 = .ok (.idiv, 1) := by decide +kernel
theorem dX8_layThen_106 : decode cX8_layThen 106 = .ok (.invokestatic 166, 3) := by decide +kernel
theorem dX8_layThen_109 : decode cX8_layThen 109 = .ok (.imul, 1) := by decide +kernel
theorem dX8_layThen_110 : decode cX8_layThen 110 = .ok (.iadd, 1) := by decide +kernel
theorem dX8_layThen_111 : decode cX8_layThen 111 = .ok (.iastore, 1) := by decide +kernel
theorem dX8_layThen_112 : decode cX8_layThen 112 = .ok (.iload_n 1, 1) := by decide +kernel
theorem dX8_layThen_113 : decode cX8_layThen 113 = .ok (.aload_n 0, 1) := by decide +kernel
theorem dX8_layThen_114 : decode cX8_layThen 114 = .ok (.getfield 40, 3) := by decide +kernel
theorem dX8_layThen_117 : decode cX8_layThen 117 = .ok (.iload_n 2, 1) := by decide +kernel
theorem dX8_layThen_118 : decode cX8_layThen 118 = .ok (.iaload, 1) := by decide +kernel
theorem dX8_layThen_119 : decode cX8_layThen 119 = .ok (.aload_n 0, 1) := by decide +kernel
theorem dX8_layThen_120 : decode cX8_layThen 120 = .ok (.getfield 16, 3) := by decide +kernel
theorem dX8_layThen_123 : decode cX8_layThen 123 = .ok (.iload_n 2, 1) := by decide +kernel
theorem dX8_layThen_124 : decode cX8_layThen 124 = .ok (.iaload, 1) := by decide +kernel
theorem dX8_layThen_125 : decode cX8_layThen 125 = .ok (.if_icmp .ne 7, 3) := by decide +kernel
theorem dX8_layThen_128 : decode cX8_layThen 128 = .ok (.iconst 0, 1) := by decide +kernel
theorem dX8_layThen_129 : decode cX8_layThen 129 = .ok (.goto 4, 3) := by decide +kernel
theorem dX8_layThen_132 : decode cX8_layThen 132 = .ok (.iconst 1, 1) := by decide +kernel
theorem dX8_layThen_133 : decode cX8_layThen 133 = .ok (.iadd, 1) := by decide +kernel
theorem dX8_layThen_134 : decode cX8_layThen 134 = .ok (.istore_n 1, 1) := by decide +kernel
theorem dX8_layThen_135 : decode cX8_layThen 135 = .ok (.iinc 2 1, 3) := by decide +kernel
theorem dX8_layThen_138 : decode cX8_layThen 138 = .ok (.goto (-126), 3) := by decide +kernel
theorem dX8_layThen_141 : decode cX8_layThen 141 = .ok (.iload_n 1, 1) := by decide +kernel
theorem dX8_layThen_142 : decode cX8_layThen 142 = .ok (.ireturn, 1) := by decide +kernel
theorem dX8_become_0 : decode cX8_become 0 = .ok (.iconst 0, 1) := by decide +kernel
theorem dX8_become_1 : decode cX8_become 1 = .ok (.istore_n 1, 1) := by decide +kernel
theorem dX8_become_2 : decode cX8_become 2 = .ok (.iload_n 1, 1) := by decide +kernel
theorem dX8_become_3 : decode cX8_become 3 = .ok (.bipush 18, 2) := by decide +kernel
theorem dX8_become_5 : decode cX8_become 5 = .ok (.if_icmp .ge 21, 3) := by decide +kernel
theorem dX8_become_8 : decode cX8_become 8 = .ok (.aload_n 0, 1) := by decide +kernel
theorem dX8_become_9 : decode cX8_become 9 = .ok (.getfield 16, 3) := by decide +kernel
theorem dX8_become_12 : decode cX8_become 12 = .ok (.iload_n 1, 1) := by decide +kernel
theorem dX8_become_13 : decode cX8_become 13 = .ok (.aload_n 0, 1) := by decide +kernel
theorem dX8_become_14 : decode cX8_become 14 = .ok (.getfield 40, 3) := by decide +kernel
theorem dX8_become_17 : decode cX8_become 17 = .ok (.iload_n 1, 1) := by decide +kernel
theorem dX8_become_18 : decode cX8_become 18 = .ok (.iaload, 1) := by decide +kernel
theorem dX8_become_19 : decode cX8_become 19 = .ok (.iastore, 1) := by decide +kernel
theorem dX8_become_20 : decode cX8_become 20 = .ok (.iinc 1 1, 3) := by decide +kernel
theorem dX8_become_23 : decode cX8_become 23 = .ok (.goto (-21), 3) := by decide +kernel
theorem dX8_become_26 : decode cX8_become 26 = .ok (.return_, 1) := by decide +kernel
theorem dX8_roundNow_0 : decode cX8_roundNow 0 = .ok (.aload_n 0, 1) := by decide +kernel
theorem dX8_roundNow_1 : decode cX8_roundNow 1 = .ok (.invokevirtual 169, 3) := by decide +kernel
theorem dX8_roundNow_4 : decode cX8_roundNow 4 = .ok (.istore_n 1, 1) := by decide +kernel
theorem dX8_roundNow_5 : decode cX8_roundNow 5 = .ok (.aload_n 0, 1) := by decide +kernel
theorem dX8_roundNow_6 : decode cX8_roundNow 6 = .ok (.invokevirtual 172, 3) := by decide +kernel
theorem dX8_roundNow_9 : decode cX8_roundNow 9 = .ok (.aload_n 0, 1) := by decide +kernel
theorem dX8_roundNow_10 : decode cX8_roundNow 10 = .ok (.dup, 1) := by decide +kernel
theorem dX8_roundNow_11 : decode cX8_roundNow 11 = .ok (.getfield 175, 3) := by decide +kernel
theorem dX8_roundNow_14 : decode cX8_roundNow 14 = .ok (.iconst 1, 1) := by decide +kernel
theorem dX8_roundNow_15 : decode cX8_roundNow 15 = .ok (.iadd, 1) := by decide +kernel
theorem dX8_roundNow_16 : decode cX8_roundNow 16 = .ok (.putfield 175, 3) := by decide +kernel
theorem dX8_roundNow_19 : decode cX8_roundNow 19 = .ok (.iload_n 1, 1) := by decide +kernel
theorem dX8_roundNow_20 : decode cX8_roundNow 20 = .ok (.ireturn, 1) := by decide +kernel
theorem dX8_round_0 : decode cX8_round 0 = .ok (.aload_n 0, 1) := by decide +kernel
theorem dX8_round_1 : decode cX8_round 1 = .ok (.getfield 92, 3) := by decide +kernel
theorem dX8_round_4 : decode cX8_round 4 = .ok (.ifCond .ne 9, 3) := by decide +kernel
theorem dX8_round_7 : decode cX8_round 7 = .ok (.sipush (-1003), 3) := by decide +kernel
theorem dX8_round_10 : decode cX8_round 10 = .ok (.goto 7, 3) := by decide +kernel
theorem dX8_round_13 : decode cX8_round 13 = .ok (.aload_n 0, 1) := by decide +kernel
theorem dX8_round_14 : decode cX8_round 14 = .ok (.invokevirtual 178, 3) := by decide +kernel
theorem dX8_round_17 : decode cX8_round 17 = .ok (.ireturn, 1) := by decide +kernel
theorem dX8_layRest_0 : decode cX8_layRest 0 = .ok (.iconst 0, 1) := by decide +kernel
theorem dX8_layRest_1 : decode cX8_layRest 1 = .ok (.istore_n 1, 1) := by decide +kernel
theorem dX8_layRest_2 : decode cX8_layRest 2 = .ok (.iload_n 1, 1) := by decide +kernel
theorem dX8_layRest_3 : decode cX8_layRest 3 = .ok (.bipush 18, 2) := by decide +kernel
theorem dX8_layRest_5 : decode cX8_layRest 5 = .ok (.if_icmp .ge 21, 3) := by decide +kernel
theorem dX8_layRest_8 : decode cX8_layRest 8 = .ok (.aload_n 0, 1) := by decide +kernel
theorem dX8_layRest_9 : decode cX8_layRest 9 = .ok (.getfield 43, 3) := by decide +kernel
theorem dX8_layRest_12 : decode cX8_layRest 12 = .ok (.iload_n 1, 1) := by decide +kernel
theorem dX8_layRest_13 : decode cX8_layRest 13 = .ok (.aload_n 0, 1) := by decide +kernel
theorem dX8_layRest_14 : decode cX8_layRest 14 = .ok (.getfield 16, 3) := by decide +kernel
theorem dX8_layRest_17 : decode cX8_layRest 17 = .ok (.iload_n 1, 1) := by decide +kernel
theorem dX8_layRest_18 : decode cX8_layRest 18 = .ok (.iaload, 1) := by decide +kernel
theorem dX8_layRest_19 : decode cX8_layRest 19 = .ok (.iastore, 1) := by decide +kernel
theorem dX8_layRest_20 : decode cX8_layRest 20 = .ok (.iinc 1 1, 3) := by decide +kernel
theorem dX8_layRest_23 : decode cX8_layRest 23 = .ok (.goto (-21), 3) := by decide +kernel
theorem dX8_layRest_26 : decode cX8_layRest 26 = .ok (.iconst 0, 1) := by decide +kernel
theorem dX8_layRest_27 : decode cX8_layRest 27 = .ok (.istore_n 1, 1) := by decide +kernel
theorem dX8_layRest_28 : decode cX8_layRest 28 = .ok (.aload_n 0, 1) := by decide +kernel
theorem dX8_layRest_29 : decode cX8_layRest 29 = .ok (.invokevirtual 169, 3) := by decide +kernel
theorem dX8_layRest_32 : decode cX8_layRest 32 = .ok (.istore_n 2, 1) := by decide +kernel
theorem dX8_layRest_33 : decode cX8_layRest 33 = .ok (.iload_n 2, 1) := by decide +kernel
theorem dX8_layRest_34 : decode cX8_layRest 34 = .ok (.ifCond .le 24, 3) := by decide +kernel
theorem dX8_layRest_37 : decode cX8_layRest 37 = .ok (.iload_n 1, 1) := by decide +kernel
theorem dX8_layRest_38 : decode cX8_layRest 38 = .ok (.bipush 12, 2) := by decide +kernel
theorem dX8_layRest_40 : decode cX8_layRest 40 = .ok (.if_icmp .ge 18, 3) := by decide +kernel
theorem dX8_layRest_43 : decode cX8_layRest 43 = .ok (.aload_n 0, 1) := by decide +kernel
theorem dX8_layRest_44 : decode cX8_layRest 44 = .ok (.invokevirtual 172, 3) := by decide +kernel
theorem dX8_layRest_47 : decode cX8_layRest 47 = .ok (.iinc 1 1, 3) := by decide +kernel
theorem dX8_layRest_50 : decode cX8_layRest 50 = .ok (.aload_n 0, 1) := by decide +kernel
theorem dX8_layRest_51 : decode cX8_layRest 51 = .ok (.invokevirtual 169, 3) := by decide +kernel
theorem dX8_layRest_54 : decode cX8_layRest 54 = .ok (.istore_n 2, 1) := by decide +kernel
theorem dX8_layRest_55 : decode cX8_layRest 55 = .ok (.goto (-22), 3) := by decide +kernel
theorem dX8_layRest_58 : decode cX8_layRest 58 = .ok (.aload_n 0, 1) := by decide +kernel
theorem dX8_layRest_59 : decode cX8_layRest 59 = .ok (.getfield 46, 3) := by decide +kernel
theorem dX8_layRest_62 : decode cX8_layRest 62 = .ok (.iconst 0, 1) := by decide +kernel
theorem dX8_layRest_63 : decode cX8_layRest 63 = .ok (.iload_n 2, 1) := by decide +kernel
theorem dX8_layRest_64 : decode cX8_layRest 64 = .ok (.ifCond .le 7, 3) := by decide +kernel
theorem dX8_layRest_67 : decode cX8_layRest 67 = .ok (.iconst (-1), 1) := by decide +kernel
theorem dX8_layRest_68 : decode cX8_layRest 68 = .ok (.goto 4, 3) := by decide +kernel
theorem dX8_layRest_71 : decode cX8_layRest 71 = .ok (.iload_n 1, 1) := by decide +kernel
theorem dX8_layRest_72 : decode cX8_layRest 72 = .ok (.iastore, 1) := by decide +kernel
theorem dX8_layRest_73 : decode cX8_layRest 73 = .ok (.aload_n 0, 1) := by decide +kernel
theorem dX8_layRest_74 : decode cX8_layRest 74 = .ok (.getfield 46, 3) := by decide +kernel
