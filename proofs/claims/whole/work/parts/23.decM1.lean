/-! Decoded. -/
theorem dM_sums_3 : decode cM_sums 3 = .ok (.invokevirtual 76, 3) := by decide +kernel
theorem dM_sums_6 : decode cM_sums 6 = .ok (.ifCond .eq 14, 3) := by decide +kernel
theorem dM_sums_9 : decode cM_sums 9 = .ok (.aload_n 0, 1) := by decide +kernel
theorem dM_sums_10 : decode cM_sums 10 = .ok (.bipush 6, 2) := by decide +kernel
theorem dM_sums_12 : decode cM_sums 12 = .ok (.iload_n 1, 1) := by decide +kernel
theorem dM_sums_13 : decode cM_sums 13 = .ok (.iconst (-1), 1) := by decide +kernel
theorem dM_sums_14 : decode cM_sums 14 = .ok (.invokevirtual 64, 3) := by decide +kernel
theorem dM_sums_17 : decode cM_sums 17 = .ok (.goto 4, 3) := by decide +kernel
theorem dM_sums_20 : decode cM_sums 20 = .ok (.iconst 0, 1) := by decide +kernel
theorem dM_sums_21 : decode cM_sums 21 = .ok (.ireturn, 1) := by decide +kernel
theorem dM_derive_0 : decode cM_derive 0 = .ok (.aload_n 0, 1) := by decide +kernel
theorem dM_derive_1 : decode cM_derive 1 = .ok (.iload_n 1, 1) := by decide +kernel
theorem dM_derive_2 : decode cM_derive 2 = .ok (.iload_n 1, 1) := by decide +kernel
theorem dM_derive_3 : decode cM_derive 3 = .ok (.invokevirtual 76, 3) := by decide +kernel
theorem dM_derive_6 : decode cM_derive 6 = .ok (.ifCond .eq 14, 3) := by decide +kernel
theorem dM_derive_9 : decode cM_derive 9 = .ok (.aload_n 0, 1) := by decide +kernel
theorem dM_derive_10 : decode cM_derive 10 = .ok (.bipush 7, 2) := by decide +kernel
theorem dM_derive_12 : decode cM_derive 12 = .ok (.iload_n 1, 1) := by decide +kernel
theorem dM_derive_13 : decode cM_derive 13 = .ok (.iconst (-1), 1) := by decide +kernel
theorem dM_derive_14 : decode cM_derive 14 = .ok (.invokevirtual 64, 3) := by decide +kernel
theorem dM_derive_17 : decode cM_derive 17 = .ok (.goto 4, 3) := by decide +kernel
theorem dM_derive_20 : decode cM_derive 20 = .ok (.iconst 0, 1) := by decide +kernel
theorem dM_derive_21 : decode cM_derive 21 = .ok (.ireturn, 1) := by decide +kernel
theorem dM_factorAt_0 : decode cM_factorAt 0 = .ok (.bipush 12, 2) := by decide +kernel
theorem dM_factorAt_2 : decode cM_factorAt 2 = .ok (.iload_n 1, 1) := by decide +kernel
theorem dM_factorAt_3 : decode cM_factorAt 3 = .ok (.imul, 1) := by decide +kernel
theorem dM_factorAt_4 : decode cM_factorAt 4 = .ok (.iconst 3, 1) := by decide +kernel
theorem dM_factorAt_5 : decode cM_factorAt 5 = .ok (.iload_n 2, 1) := by decide +kernel
theorem dM_factorAt_6 : decode cM_factorAt 6 = .ok (.imul, 1) := by decide +kernel
theorem dM_factorAt_7 : decode cM_factorAt 7 = .ok (.iadd, 1) := by decide +kernel
theorem dM_factorAt_8 : decode cM_factorAt 8 = .ok (.istore 4, 2) := by decide +kernel
theorem dM_factorAt_10 : decode cM_factorAt 10 = .ok (.aload_n 0, 1) := by decide +kernel
theorem dM_factorAt_11 : decode cM_factorAt 11 = .ok (.getfield 22, 3) := by decide +kernel
theorem dM_factorAt_14 : decode cM_factorAt 14 = .ok (.iload 4, 2) := by decide +kernel
theorem dM_factorAt_16 : decode cM_factorAt 16 = .ok (.iaload, 1) := by decide +kernel
theorem dM_factorAt_17 : decode cM_factorAt 17 = .ok (.i2l, 1) := by decide +kernel
theorem dM_factorAt_18 : decode cM_factorAt 18 = .ok (.aload_n 0, 1) := by decide +kernel
theorem dM_factorAt_19 : decode cM_factorAt 19 = .ok (.getfield 22, 3) := by decide +kernel
theorem dM_factorAt_22 : decode cM_factorAt 22 = .ok (.iload 4, 2) := by decide +kernel
theorem dM_factorAt_24 : decode cM_factorAt 24 = .ok (.iconst 1, 1) := by decide +kernel
theorem dM_factorAt_25 : decode cM_factorAt 25 = .ok (.iadd, 1) := by decide +kernel
theorem dM_factorAt_26 : decode cM_factorAt 26 = .ok (.iaload, 1) := by decide +kernel
theorem dM_factorAt_27 : decode cM_factorAt 27 = .ok (.i2l, 1) := by decide +kernel
theorem dM_factorAt_28 : decode cM_factorAt 28 = .ok (.iload_n 3, 1) := by decide +kernel
theorem dM_factorAt_29 : decode cM_factorAt 29 = .ok (.i2l, 1) := by decide +kernel
theorem dM_factorAt_30 : decode cM_factorAt 30 = .ok (.lmul, 1) := by decide +kernel
theorem dM_factorAt_31 : decode cM_factorAt 31 = .ok (.ladd, 1) := by decide +kernel
theorem dM_factorAt_32 : decode cM_factorAt 32 = .ok (.aload_n 0, 1) := by decide +kernel
theorem dM_factorAt_33 : decode cM_factorAt 33 = .ok (.getfield 22, 3) := by decide +kernel
theorem dM_factorAt_36 : decode cM_factorAt 36 = .ok (.iload 4, 2) := by decide +kernel
theorem dM_factorAt_38 : decode cM_factorAt 38 = .ok (.iconst 2, 1) := by decide +kernel
theorem dM_factorAt_39 : decode cM_factorAt 39 = .ok (.iadd, 1) := by decide +kernel
theorem dM_factorAt_40 : decode cM_factorAt 40 = .ok (.iaload, 1) := by decide +kernel
theorem dM_factorAt_41 : decode cM_factorAt 41 = .ok (.i2l, 1) := by decide +kernel
theorem dM_factorAt_42 : decode cM_factorAt 42 = .ok (.iload_n 3, 1) := by decide +kernel
theorem dM_factorAt_43 : decode cM_factorAt 43 = .ok (.iload_n 3, 1) := by decide +kernel
theorem dM_factorAt_44 : decode cM_factorAt 44 = .ok (.imul, 1) := by decide +kernel
theorem dM_factorAt_45 : decode cM_factorAt 45 = .ok (.i2l, 1) := by decide +kernel
theorem dM_factorAt_46 : decode cM_factorAt 46 = .ok (.lmul, 1) := by decide +kernel
theorem dM_factorAt_47 : decode cM_factorAt 47 = .ok (.ladd, 1) := by decide +kernel
theorem dM_factorAt_48 : decode cM_factorAt 48 = .ok (.ldc2_w 49, 3) := by decide +kernel
theorem dM_factorAt_51 : decode cM_factorAt 51 = .ok (.lrem, 1) := by decide +kernel
theorem dM_factorAt_52 : decode cM_factorAt 52 = .ok (.lreturn, 1) := by decide +kernel
theorem dM_recurred_0 : decode cM_recurred 0 = .ok (.aload_n 0, 1) := by decide +kernel
theorem dM_recurred_1 : decode cM_recurred 1 = .ok (.getfield 19, 3) := by decide +kernel
theorem dM_recurred_4 : decode cM_recurred 4 = .ok (.iload_n 1, 1) := by decide +kernel
theorem dM_recurred_5 : decode cM_recurred 5 = .ok (.iaload, 1) := by decide +kernel
theorem dM_recurred_6 : decode cM_recurred 6 = .ok (.istore_n 3, 1) := by decide +kernel
theorem dM_recurred_7 : decode cM_recurred 7 = .ok (.iload_n 2, 1) := by decide +kernel
theorem dM_recurred_8 : decode cM_recurred 8 = .ok (.iload_n 3, 1) := by decide +kernel
theorem dM_recurred_9 : decode cM_recurred 9 = .ok (.isub, 1) := by decide +kernel
theorem dM_recurred_10 : decode cM_recurred 10 = .ok (.istore 4, 2) := by decide +kernel
theorem dM_recurred_12 : decode cM_recurred 12 = .ok (.iload 4, 2) := by decide +kernel
theorem dM_recurred_14 : decode cM_recurred 14 = .ok (.ifCond .ge 7, 3) := by decide +kernel
theorem dM_recurred_17 : decode cM_recurred 17 = .ok (.lconst 0, 1) := by decide +kernel
theorem dM_recurred_18 : decode cM_recurred 18 = .ok (.goto 11, 3) := by decide +kernel
theorem dM_recurred_21 : decode cM_recurred 21 = .ok (.aload_n 0, 1) := by decide +kernel
theorem dM_recurred_22 : decode cM_recurred 22 = .ok (.iload_n 1, 1) := by decide +kernel
theorem dM_recurred_23 : decode cM_recurred 23 = .ok (.iload_n 3, 1) := by decide +kernel
theorem dM_recurred_24 : decode cM_recurred 24 = .ok (.iload 4, 2) := by decide +kernel
theorem dM_recurred_26 : decode cM_recurred 26 = .ok (.invokevirtual 86, 3) := by decide +kernel
theorem dM_recurred_29 : decode cM_recurred 29 = .ok (.lstore 5, 2) := by decide +kernel
theorem dM_recurred_31 : decode cM_recurred 31 = .ok (.lload 5, 2) := by decide +kernel
theorem dM_recurred_33 : decode cM_recurred 33 = .ok (.lconst 0, 1) := by decide +kernel
theorem dM_recurred_34 : decode cM_recurred 34 = .ok (.lcmp, 1) := by decide +kernel
theorem dM_recurred_35 : decode cM_recurred 35 = .ok (.ifCond .ne 16, 3) := by decide +kernel
theorem dM_recurred_38 : decode cM_recurred 38 = .ok (.aload_n 0, 1) := by decide +kernel
theorem dM_recurred_39 : decode cM_recurred 39 = .ok (.getfield 25, 3) := by decide +kernel
theorem dM_recurred_42 : decode cM_recurred 42 = .ok (.bipush 64, 2) := by decide +kernel
theorem dM_recurred_44 : decode cM_recurred 44 = .ok (.iload_n 1, 1) := by decide +kernel
theorem dM_recurred_45 : decode cM_recurred 45 = .ok (.imul, 1) := by decide +kernel
theorem dM_recurred_46 : decode cM_recurred 46 = .ok (.iload_n 2, 1) := by decide +kernel
theorem dM_recurred_47 : decode cM_recurred 47 = .ok (.iadd, 1) := by decide +kernel
theorem dM_recurred_48 : decode cM_recurred 48 = .ok (.iaload, 1) := by decide +kernel
theorem dM_recurred_49 : decode cM_recurred 49 = .ok (.i2l, 1) := by decide +kernel
theorem dM_recurred_50 : decode cM_recurred 50 = .ok (.lreturn, 1) := by decide +kernel
theorem dM_recurred_51 : decode cM_recurred 51 = .ok (.lconst 0, 1) := by decide +kernel
theorem dM_recurred_52 : decode cM_recurred 52 = .ok (.lstore 7, 2) := by decide +kernel
theorem dM_recurred_54 : decode cM_recurred 54 = .ok (.iconst 0, 1) := by decide +kernel
theorem dM_recurred_55 : decode cM_recurred 55 = .ok (.istore 9, 2) := by decide +kernel
theorem dM_recurred_57 : decode cM_recurred 57 = .ok (.iload 9, 2) := by decide +kernel
theorem dM_recurred_59 : decode cM_recurred 59 = .ok (.iload_n 3, 1) := by decide +kernel
theorem dM_recurred_60 : decode cM_recurred 60 = .ok (.if_icmp .ge 43, 3) := by decide +kernel
theorem dM_recurred_63 : decode cM_recurred 63 = .ok (.lload 7, 2) := by decide +kernel
theorem dM_recurred_65 : decode cM_recurred 65 = .ok (.aload_n 0, 1) := by decide +kernel
theorem dM_recurred_66 : decode cM_recurred 66 = .ok (.iload_n 1, 1) := by decide +kernel
theorem dM_recurred_67 : decode cM_recurred 67 = .ok (.iload 9, 2) := by decide +kernel
theorem dM_recurred_69 : decode cM_recurred 69 = .ok (.iload 4, 2) := by decide +kernel
theorem dM_recurred_71 : decode cM_recurred 71 = .ok (.invokevirtual 86, 3) := by decide +kernel
theorem dM_recurred_74 : decode cM_recurred 74 = .ok (.aload_n 0, 1) := by decide +kernel
theorem dM_recurred_75 : decode cM_recurred 75 = .ok (.getfield 28, 3) := by decide +kernel
theorem dM_recurred_78 : decode cM_recurred 78 = .ok (.bipush 64, 2) := by decide +kernel
theorem dM_recurred_80 : decode cM_recurred 80 = .ok (.iload_n 1, 1) := by decide +kernel
theorem dM_recurred_81 : decode cM_recurred 81 = .ok (.imul, 1) := by decide +kernel
theorem dM_recurred_82 : decode cM_recurred 82 = .ok (.iload 4, 2) := by decide +kernel
theorem dM_recurred_84 : decode cM_recurred 84 = .ok (.iadd, 1) := by decide +kernel
theorem dM_recurred_85 : decode cM_recurred 85 = .ok (.iload 9, 2) := by decide +kernel
theorem dM_recurred_87 : decode cM_recurred 87 = .ok (.iadd, 1) := by decide +kernel
theorem dM_recurred_88 : decode cM_recurred 88 = .ok (.laload, 1) := by decide +kernel
theorem dM_recurred_89 : decode cM_recurred 89 = .ok (.lmul, 1) := by decide +kernel
theorem dM_recurred_90 : decode cM_recurred 90 = .ok (.ladd, 1) := by decide +kernel
theorem dM_recurred_91 : decode cM_recurred 91 = .ok (.ldc2_w 49, 3) := by decide +kernel
theorem dM_recurred_94 : decode cM_recurred 94 = .ok (.lrem, 1) := by decide +kernel
theorem dM_recurred_95 : decode cM_recurred 95 = .ok (.lstore 7, 2) := by decide +kernel
theorem dM_recurred_97 : decode cM_recurred 97 = .ok (.iinc 9 1, 3) := by decide +kernel
theorem dM_recurred_100 : decode cM_recurred 100 = .ok (.goto (-43), 3) := by decide +kernel
theorem dM_recurred_103 : decode cM_recurred 103 = .ok (.ldc2_w 49, 3) := by decide +kernel
theorem dM_recurred_106 : decode cM_recurred 106 = .ok (.lload 7, 2) := by decide +kernel
theorem dM_recurred_108 : decode cM_recurred 108 = .ok (.lsub, 1) := by decide +kernel
theorem dM_recurred_109 : decode cM_recurred 109 = .ok (.ldc2_w 49, 3) := by decide +kernel
theorem dM_recurred_112 : decode cM_recurred 112 = .ok (.lrem, 1) := by decide +kernel
theorem dM_recurred_113 : decode cM_recurred 113 = .ok (.lload 5, 2) := by decide +kernel
theorem dM_recurred_115 : decode cM_recurred 115 = .ok (.invokestatic 90, 3) := by decide +kernel
theorem dM_recurred_118 : decode cM_recurred 118 = .ok (.lmul, 1) := by decide +kernel
theorem dM_recurred_119 : decode cM_recurred 119 = .ok (.ldc2_w 49, 3) := by decide +kernel
theorem dM_recurred_122 : decode cM_recurred 122 = .ok (.lrem, 1) := by decide +kernel
theorem dM_recurred_123 : decode cM_recurred 123 = .ok (.lreturn, 1) := by decide +kernel
theorem dM_numberOf_0 : decode cM_numberOf 0 = .ok (.bipush 64, 2) := by decide +kernel
theorem dM_numberOf_2 : decode cM_numberOf 2 = .ok (.aload_n 0, 1) := by decide +kernel
theorem dM_numberOf_3 : decode cM_numberOf 3 = .ok (.getfield 13, 3) := by decide +kernel
theorem dM_numberOf_6 : decode cM_numberOf 6 = .ok (.iload_n 1, 1) := by decide +kernel
theorem dM_numberOf_7 : decode cM_numberOf 7 = .ok (.iaload, 1) := by decide +kernel
theorem dM_numberOf_8 : decode cM_numberOf 8 = .ok (.imul, 1) := by decide +kernel
theorem dM_numberOf_9 : decode cM_numberOf 9 = .ok (.istore_n 3, 1) := by decide +kernel
theorem dM_numberOf_10 : decode cM_numberOf 10 = .ok (.bipush 64, 2) := by decide +kernel
theorem dM_numberOf_12 : decode cM_numberOf 12 = .ok (.aload_n 0, 1) := by decide +kernel
theorem dM_numberOf_13 : decode cM_numberOf 13 = .ok (.getfield 16, 3) := by decide +kernel
theorem dM_numberOf_16 : decode cM_numberOf 16 = .ok (.iload_n 1, 1) := by decide +kernel
theorem dM_numberOf_17 : decode cM_numberOf 17 = .ok (.iaload, 1) := by decide +kernel
theorem dM_numberOf_18 : decode cM_numberOf 18 = .ok (.imul, 1) := by decide +kernel
theorem dM_numberOf_19 : decode cM_numberOf 19 = .ok (.istore 4, 2) := by decide +kernel
theorem dM_numberOf_21 : decode cM_numberOf 21 = .ok (.aload_n 0, 1) := by decide +kernel
theorem dM_numberOf_22 : decode cM_numberOf 22 = .ok (.getfield 7, 3) := by decide +kernel
theorem dM_numberOf_25 : decode cM_numberOf 25 = .ok (.iload_n 1, 1) := by decide +kernel
theorem dM_numberOf_26 : decode cM_numberOf 26 = .ok (.iaload, 1) := by decide +kernel
theorem dM_numberOf_27 : decode cM_numberOf 27 = .ok (.tableswitch 245 0 6 #[41, 48, 71, 94, 146, 177, 210], 41) := by decide +kernel
theorem dM_numberOf_68 : decode cM_numberOf 68 = .ok (.aload_n 0, 1) := by decide +kernel
theorem dM_numberOf_69 : decode cM_numberOf 69 = .ok (.iload_n 1, 1) := by decide +kernel
theorem dM_numberOf_70 : decode cM_numberOf 70 = .ok (.iload_n 2, 1) := by decide +kernel
theorem dM_numberOf_71 : decode cM_numberOf 71 = .ok (.invokevirtual 93, 3) := by decide +kernel
theorem dM_numberOf_74 : decode cM_numberOf 74 = .ok (.lreturn, 1) := by decide +kernel
theorem dM_numberOf_75 : decode cM_numberOf 75 = .ok (.aload_n 0, 1) := by decide +kernel
theorem dM_numberOf_76 : decode cM_numberOf 76 = .ok (.getfield 28, 3) := by decide +kernel
theorem dM_numberOf_79 : decode cM_numberOf 79 = .ok (.iload_n 3, 1) := by decide +kernel
theorem dM_numberOf_80 : decode cM_numberOf 80 = .ok (.iload_n 2, 1) := by decide +kernel
theorem dM_numberOf_81 : decode cM_numberOf 81 = .ok (.iadd, 1) := by decide +kernel
theorem dM_numberOf_82 : decode cM_numberOf 82 = .ok (.laload, 1) := by decide +kernel
theorem dM_numberOf_83 : decode cM_numberOf 83 = .ok (.aload_n 0, 1) := by decide +kernel
theorem dM_numberOf_84 : decode cM_numberOf 84 = .ok (.getfield 28, 3) := by decide +kernel
theorem dM_numberOf_87 : decode cM_numberOf 87 = .ok (.iload 4, 2) := by decide +kernel
theorem dM_numberOf_89 : decode cM_numberOf 89 = .ok (.iload_n 2, 1) := by decide +kernel
theorem dM_numberOf_90 : decode cM_numberOf 90 = .ok (.iadd, 1) := by decide +kernel
theorem dM_numberOf_91 : decode cM_numberOf 91 = .ok (.laload, 1) := by decide +kernel
theorem dM_numberOf_92 : decode cM_numberOf 92 = .ok (.ladd, 1) := by decide +kernel
theorem dM_numberOf_93 : decode cM_numberOf 93 = .ok (.ldc2_w 49, 3) := by decide +kernel
theorem dM_numberOf_96 : decode cM_numberOf 96 = .ok (.lrem, 1) := by decide +kernel
theorem dM_numberOf_97 : decode cM_numberOf 97 = .ok (.lreturn, 1) := by decide +kernel
theorem dM_numberOf_98 : decode cM_numberOf 98 = .ok (.aload_n 0, 1) := by decide +kernel
theorem dM_numberOf_99 : decode cM_numberOf 99 = .ok (.getfield 28, 3) := by decide +kernel
theorem dM_numberOf_102 : decode cM_numberOf 102 = .ok (.iload_n 3, 1) := by decide +kernel
theorem dM_numberOf_103 : decode cM_numberOf 103 = .ok (.iload_n 2, 1) := by decide +kernel
theorem dM_numberOf_104 : decode cM_numberOf 104 = .ok (.iadd, 1) := by decide +kernel
theorem dM_numberOf_105 : decode cM_numberOf 105 = .ok (.laload, 1) := by decide +kernel
theorem dM_numberOf_106 : decode cM_numberOf 106 = .ok (.aload_n 0, 1) := by decide +kernel
theorem dM_numberOf_107 : decode cM_numberOf 107 = .ok (.getfield 28, 3) := by decide +kernel
theorem dM_numberOf_110 : decode cM_numberOf 110 = .ok (.iload 4, 2) := by decide +kernel
theorem dM_numberOf_112 : decode cM_numberOf 112 = .ok (.iload_n 2, 1) := by decide +kernel
theorem dM_numberOf_113 : decode cM_numberOf 113 = .ok (.iadd, 1) := by decide +kernel
theorem dM_numberOf_114 : decode cM_numberOf 114 = .ok (.laload, 1) := by decide +kernel
theorem dM_numberOf_115 : decode cM_numberOf 115 = .ok (.lmul, 1) := by decide +kernel
theorem dM_numberOf_116 : decode cM_numberOf 116 = .ok (.ldc2_w 49, 3) := by decide +kernel
theorem dM_numberOf_119 : decode cM_numberOf 119 = .ok (.lrem, 1) := by decide +kernel
theorem dM_numberOf_120 : decode cM_numberOf 120 = .ok (.lreturn, 1) := by decide +kernel
theorem dM_numberOf_121 : decode cM_numberOf 121 = .ok (.lconst 0, 1) := by decide +kernel
theorem dM_numberOf_122 : decode cM_numberOf 122 = .ok (.lstore 5, 2) := by decide +kernel
theorem dM_numberOf_124 : decode cM_numberOf 124 = .ok (.iconst 0, 1) := by decide +kernel
theorem dM_numberOf_125 : decode cM_numberOf 125 = .ok (.istore 7, 2) := by decide +kernel
theorem dM_numberOf_127 : decode cM_numberOf 127 = .ok (.iload 7, 2) := by decide +kernel
theorem dM_numberOf_129 : decode cM_numberOf 129 = .ok (.iload_n 2, 1) := by decide +kernel
theorem dM_numberOf_130 : decode cM_numberOf 130 = .ok (.if_icmp .gt 40, 3) := by decide +kernel
theorem dM_numberOf_133 : decode cM_numberOf 133 = .ok (.lload 5, 2) := by decide +kernel
theorem dM_numberOf_135 : decode cM_numberOf 135 = .ok (.aload_n 0, 1) := by decide +kernel
theorem dM_numberOf_136 : decode cM_numberOf 136 = .ok (.getfield 28, 3) := by decide +kernel
theorem dM_numberOf_139 : decode cM_numberOf 139 = .ok (.iload_n 3, 1) := by decide +kernel
theorem dM_numberOf_140 : decode cM_numberOf 140 = .ok (.iload 7, 2) := by decide +kernel
theorem dM_numberOf_142 : decode cM_numberOf 142 = .ok (.iadd, 1) := by decide +kernel
theorem dM_numberOf_143 : decode cM_numberOf 143 = .ok (.laload, 1) := by decide +kernel
theorem dM_numberOf_144 : decode cM_numberOf 144 = .ok (.aload_n 0, 1) := by decide +kernel
theorem dM_numberOf_145 : decode cM_numberOf 145 = .ok (.getfield 28, 3) := by decide +kernel
theorem dM_numberOf_148 : decode cM_numberOf 148 = .ok (.iload 4, 2) := by decide +kernel
theorem dM_numberOf_150 : decode cM_numberOf 150 = .ok (.iload_n 2, 1) := by decide +kernel
theorem dM_numberOf_151 : decode cM_numberOf 151 = .ok (.iadd, 1) := by decide +kernel
theorem dM_numberOf_152 : decode cM_numberOf 152 = .ok (.iload 7, 2) := by decide +kernel
theorem dM_numberOf_154 : decode cM_numberOf 154 = .ok (.isub, 1) := by decide +kernel
theorem dM_numberOf_155 : decode cM_numberOf 155 = .ok (.laload, 1) := by decide +kernel
theorem dM_numberOf_156 : decode cM_numberOf 156 = .ok (.lmul, 1) := by decide +kernel
theorem dM_numberOf_157 : decode cM_numberOf 157 = .ok (.ladd, 1) := by decide +kernel
theorem dM_numberOf_158 : decode cM_numberOf 158 = .ok (.ldc2_w 49, 3) := by decide +kernel
theorem dM_numberOf_161 : decode cM_numberOf 161 = .ok (.lrem, 1) := by decide +kernel
theorem dM_numberOf_162 : decode cM_numberOf 162 = .ok (.lstore 5, 2) := by decide +kernel
theorem dM_numberOf_164 : decode cM_numberOf 164 = .ok (.iinc 7 1, 3) := by decide +kernel
theorem dM_numberOf_167 : decode cM_numberOf 167 = .ok (.goto (-40), 3) := by decide +kernel
theorem dM_numberOf_170 : decode cM_numberOf 170 = .ok (.lload 5, 2) := by decide +kernel
theorem dM_numberOf_172 : decode cM_numberOf 172 = .ok (.lreturn, 1) := by decide +kernel
theorem dM_numberOf_173 : decode cM_numberOf 173 = .ok (.iload_n 2, 1) := by decide +kernel
theorem dM_numberOf_174 : decode cM_numberOf 174 = .ok (.iconst 2, 1) := by decide +kernel
theorem dM_numberOf_175 : decode cM_numberOf 175 = .ok (.irem, 1) := by decide +kernel
theorem dM_numberOf_176 : decode cM_numberOf 176 = .ok (.ifCond .ne 16, 3) := by decide +kernel
theorem dM_numberOf_179 : decode cM_numberOf 179 = .ok (.aload_n 0, 1) := by decide +kernel
theorem dM_numberOf_180 : decode cM_numberOf 180 = .ok (.getfield 28, 3) := by decide +kernel
theorem dM_numberOf_183 : decode cM_numberOf 183 = .ok (.iload_n 3, 1) := by decide +kernel
theorem dM_numberOf_184 : decode cM_numberOf 184 = .ok (.iload_n 2, 1) := by decide +kernel
theorem dM_numberOf_185 : decode cM_numberOf 185 = .ok (.iconst 2, 1) := by decide +kernel
theorem dM_numberOf_186 : decode cM_numberOf 186 = .ok (.idiv, 1) := by decide +kernel
theorem dM_numberOf_187 : decode cM_numberOf 187 = .ok (.iadd, 1) := by decide +kernel
theorem dM_numberOf_188 : decode cM_numberOf 188 = .ok (.laload, 1) := by decide +kernel
theorem dM_numberOf_189 : decode cM_numberOf 189 = .ok (.goto 14, 3) := by decide +kernel
theorem dM_numberOf_192 : decode cM_numberOf 192 = .ok (.aload_n 0, 1) := by decide +kernel
theorem dM_numberOf_193 : decode cM_numberOf 193 = .ok (.getfield 28, 3) := by decide +kernel
theorem dM_numberOf_196 : decode cM_numberOf 196 = .ok (.iload 4, 2) := by decide +kernel
theorem dM_numberOf_198 : decode cM_numberOf 198 = .ok (.iload_n 2, 1) := by decide +kernel
theorem dM_numberOf_199 : decode cM_numberOf 199 = .ok (.iconst 2, 1) := by decide +kernel
theorem dM_numberOf_200 : decode cM_numberOf 200 = .ok (.idiv, 1) := by decide +kernel
theorem dM_numberOf_201 : decode cM_numberOf 201 = .ok (.iadd, 1) := by decide +kernel
theorem dM_numberOf_202 : decode cM_numberOf 202 = .ok (.laload, 1) := by decide +kernel
theorem dM_numberOf_203 : decode cM_numberOf 203 = .ok (.lreturn, 1) := by decide +kernel
theorem dM_numberOf_204 : decode cM_numberOf 204 = .ok (.iload_n 2, 1) := by decide +kernel
theorem dM_numberOf_205 : decode cM_numberOf 205 = .ok (.aload_n 0, 1) := by decide +kernel
theorem dM_numberOf_206 : decode cM_numberOf 206 = .ok (.getfield 16, 3) := by decide +kernel
theorem dM_numberOf_209 : decode cM_numberOf 209 = .ok (.iload_n 1, 1) := by decide +kernel
theorem dM_numberOf_210 : decode cM_numberOf 210 = .ok (.iaload, 1) := by decide +kernel
theorem dM_numberOf_211 : decode cM_numberOf 211 = .ok (.iadd, 1) := by decide +kernel
theorem dM_numberOf_212 : decode cM_numberOf 212 = .ok (.bipush 64, 2) := by decide +kernel
theorem dM_numberOf_214 : decode cM_numberOf 214 = .ok (.if_icmp .ge 21, 3) := by decide +kernel
theorem dM_numberOf_217 : decode cM_numberOf 217 = .ok (.aload_n 0, 1) := by decide +kernel
theorem dM_numberOf_218 : decode cM_numberOf 218 = .ok (.getfield 28, 3) := by decide +kernel
theorem dM_numberOf_221 : decode cM_numberOf 221 = .ok (.iload_n 3, 1) := by decide +kernel
theorem dM_numberOf_222 : decode cM_numberOf 222 = .ok (.iload_n 2, 1) := by decide +kernel
theorem dM_numberOf_223 : decode cM_numberOf 223 = .ok (.iadd, 1) := by decide +kernel
theorem dM_numberOf_224 : decode cM_numberOf 224 = .ok (.aload_n 0, 1) := by decide +kernel
theorem dM_numberOf_225 : decode cM_numberOf 225 = .ok (.getfield 16, 3) := by decide +kernel
theorem dM_numberOf_228 : decode cM_numberOf 228 = .ok (.iload_n 1, 1) := by decide +kernel
theorem dM_numberOf_229 : decode cM_numberOf 229 = .ok (.iaload, 1) := by decide +kernel
theorem dM_numberOf_230 : decode cM_numberOf 230 = .ok (.iadd, 1) := by decide +kernel
theorem dM_numberOf_231 : decode cM_numberOf 231 = .ok (.laload, 1) := by decide +kernel
theorem dM_numberOf_232 : decode cM_numberOf 232 = .ok (.goto 4, 3) := by decide +kernel
theorem dM_numberOf_235 : decode cM_numberOf 235 = .ok (.lconst 0, 1) := by decide +kernel
theorem dM_numberOf_236 : decode cM_numberOf 236 = .ok (.lreturn, 1) := by decide +kernel
theorem dM_numberOf_237 : decode cM_numberOf 237 = .ok (.iload_n 2, 1) := by decide +kernel
theorem dM_numberOf_238 : decode cM_numberOf 238 = .ok (.ifCond .le 19, 3) := by decide +kernel
theorem dM_numberOf_241 : decode cM_numberOf 241 = .ok (.aload_n 0, 1) := by decide +kernel
theorem dM_numberOf_242 : decode cM_numberOf 242 = .ok (.getfield 28, 3) := by decide +kernel
theorem dM_numberOf_245 : decode cM_numberOf 245 = .ok (.bipush 64, 2) := by decide +kernel
theorem dM_numberOf_247 : decode cM_numberOf 247 = .ok (.iload_n 1, 1) := by decide +kernel
theorem dM_numberOf_248 : decode cM_numberOf 248 = .ok (.imul, 1) := by decide +kernel
theorem dM_numberOf_249 : decode cM_numberOf 249 = .ok (.iload_n 2, 1) := by decide +kernel
theorem dM_numberOf_250 : decode cM_numberOf 250 = .ok (.iadd, 1) := by decide +kernel
theorem dM_numberOf_251 : decode cM_numberOf 251 = .ok (.iconst 1, 1) := by decide +kernel
theorem dM_numberOf_252 : decode cM_numberOf 252 = .ok (.isub, 1) := by decide +kernel
theorem dM_numberOf_253 : decode cM_numberOf 253 = .ok (.laload, 1) := by decide +kernel
theorem dM_numberOf_254 : decode cM_numberOf 254 = .ok (.goto 4, 3) := by decide +kernel
theorem dM_numberOf_257 : decode cM_numberOf 257 = .ok (.lconst 0, 1) := by decide +kernel
theorem dM_numberOf_258 : decode cM_numberOf 258 = .ok (.aload_n 0, 1) := by decide +kernel
theorem dM_numberOf_259 : decode cM_numberOf 259 = .ok (.getfield 28, 3) := by decide +kernel
theorem dM_numberOf_262 : decode cM_numberOf 262 = .ok (.iload_n 3, 1) := by decide +kernel
theorem dM_numberOf_263 : decode cM_numberOf 263 = .ok (.iload_n 2, 1) := by decide +kernel
theorem dM_numberOf_264 : decode cM_numberOf 264 = .ok (.iadd, 1) := by decide +kernel
theorem dM_numberOf_265 : decode cM_numberOf 265 = .ok (.laload, 1) := by decide +kernel
theorem dM_numberOf_266 : decode cM_numberOf 266 = .ok (.ladd, 1) := by decide +kernel
theorem dM_numberOf_267 : decode cM_numberOf 267 = .ok (.ldc2_w 49, 3) := by decide +kernel
theorem dM_numberOf_270 : decode cM_numberOf 270 = .ok (.lrem, 1) := by decide +kernel
theorem dM_numberOf_271 : decode cM_numberOf 271 = .ok (.lreturn, 1) := by decide +kernel
theorem dM_numberOf_272 : decode cM_numberOf 272 = .ok (.iload_n 2, 1) := by decide +kernel
theorem dM_numberOf_273 : decode cM_numberOf 273 = .ok (.bipush 63, 2) := by decide +kernel
theorem dM_numberOf_275 : decode cM_numberOf 275 = .ok (.if_icmp .ne 7, 3) := by decide +kernel
theorem dM_numberOf_278 : decode cM_numberOf 278 = .ok (.lconst 0, 1) := by decide +kernel
theorem dM_numberOf_279 : decode cM_numberOf 279 = .ok (.goto 22, 3) := by decide +kernel
theorem dM_numberOf_282 : decode cM_numberOf 282 = .ok (.iload_n 2, 1) := by decide +kernel
theorem dM_numberOf_283 : decode cM_numberOf 283 = .ok (.iconst 1, 1) := by decide +kernel
theorem dM_numberOf_284 : decode cM_numberOf 284 = .ok (.iadd, 1) := by decide +kernel
theorem dM_numberOf_285 : decode cM_numberOf 285 = .ok (.i2l, 1) := by decide +kernel
theorem dM_numberOf_286 : decode cM_numberOf 286 = .ok (.aload_n 0, 1) := by decide +kernel
theorem dM_numberOf_287 : decode cM_numberOf 287 = .ok (.getfield 28, 3) := by decide +kernel
theorem dM_numberOf_290 : decode cM_numberOf 290 = .ok (.iload_n 3, 1) := by decide +kernel
theorem dM_numberOf_291 : decode cM_numberOf 291 = .ok (.iload_n 2, 1) := by decide +kernel
theorem dM_numberOf_292 : decode cM_numberOf 292 = .ok (.iadd, 1) := by decide +kernel
theorem dM_numberOf_293 : decode cM_numberOf 293 = .ok (.iconst 1, 1) := by decide +kernel
theorem dM_numberOf_294 : decode cM_numberOf 294 = .ok (.iadd, 1) := by decide +kernel
theorem dM_numberOf_295 : decode cM_numberOf 295 = .ok (.laload, 1) := by decide +kernel
theorem dM_numberOf_296 : decode cM_numberOf 296 = .ok (.lmul, 1) := by decide +kernel
theorem dM_numberOf_297 : decode cM_numberOf 297 = .ok (.ldc2_w 49, 3) := by decide +kernel
theorem dM_numberOf_300 : decode cM_numberOf 300 = .ok (.lrem, 1) := by decide +kernel
theorem dM_numberOf_301 : decode cM_numberOf 301 = .ok (.lreturn, 1) := by decide +kernel
theorem dM_work_0 : decode cM_work 0 = .ok (.iconst 0, 1) := by decide +kernel
theorem dM_work_1 : decode cM_work 1 = .ok (.istore_n 2, 1) := by decide +kernel
theorem dM_work_2 : decode cM_work 2 = .ok (.iload_n 2, 1) := by decide +kernel
theorem dM_work_3 : decode cM_work 3 = .ok (.iload_n 1, 1) := by decide +kernel
theorem dM_work_4 : decode cM_work 4 = .ok (.if_icmp .gt 40, 3) := by decide +kernel
theorem dM_work_7 : decode cM_work 7 = .ok (.iconst 0, 1) := by decide +kernel
theorem dM_work_8 : decode cM_work 8 = .ok (.istore_n 3, 1) := by decide +kernel
theorem dM_work_9 : decode cM_work 9 = .ok (.iload_n 3, 1) := by decide +kernel
theorem dM_work_10 : decode cM_work 10 = .ok (.bipush 64, 2) := by decide +kernel
theorem dM_work_12 : decode cM_work 12 = .ok (.if_icmp .ge 26, 3) := by decide +kernel
theorem dM_work_15 : decode cM_work 15 = .ok (.aload_n 0, 1) := by decide +kernel
theorem dM_work_16 : decode cM_work 16 = .ok (.getfield 28, 3) := by decide +kernel
theorem dM_work_19 : decode cM_work 19 = .ok (.bipush 64, 2) := by decide +kernel
theorem dM_work_21 : decode cM_work 21 = .ok (.iload_n 2, 1) := by decide +kernel
theorem dM_work_22 : decode cM_work 22 = .ok (.imul, 1) := by decide +kernel
theorem dM_work_23 : decode cM_work 23 = .ok (.iload_n 3, 1) := by decide +kernel
theorem dM_work_24 : decode cM_work 24 = .ok (.iadd, 1) := by decide +kernel
theorem dM_work_25 : decode cM_work 25 = .ok (.aload_n 0, 1) := by decide +kernel
theorem dM_work_26 : decode cM_work 26 = .ok (.iload_n 2, 1) := by decide +kernel
theorem dM_work_27 : decode cM_work 27 = .ok (.iload_n 3, 1) := by decide +kernel
theorem dM_work_28 : decode cM_work 28 = .ok (.invokevirtual 97, 3) := by decide +kernel
theorem dM_work_31 : decode cM_work 31 = .ok (.lastore, 1) := by decide +kernel
theorem dM_work_32 : decode cM_work 32 = .ok (.iinc 3 1, 3) := by decide +kernel
theorem dM_work_35 : decode cM_work 35 = .ok (.goto (-26), 3) := by decide +kernel
theorem dM_work_38 : decode cM_work 38 = .ok (.iinc 2 1, 3) := by decide +kernel
theorem dM_work_41 : decode cM_work 41 = .ok (.goto (-39), 3) := by decide +kernel
theorem dM_work_44 : decode cM_work 44 = .ok (.return_, 1) := by decide +kernel
theorem dM_value_0 : decode cM_value 0 = .ok (.aload_n 0, 1) := by decide +kernel
theorem dM_value_1 : decode cM_value 1 = .ok (.aload_n 0, 1) := by decide +kernel
theorem dM_value_2 : decode cM_value 2 = .ok (.iload_n 1, 1) := by decide +kernel
theorem dM_value_3 : decode cM_value 3 = .ok (.invokevirtual 58, 3) := by decide +kernel
theorem dM_value_6 : decode cM_value 6 = .ok (.ifCond .eq 19, 3) := by decide +kernel
theorem dM_value_9 : decode cM_value 9 = .ok (.iload_n 2, 1) := by decide +kernel
theorem dM_value_10 : decode cM_value 10 = .ok (.i2l, 1) := by decide +kernel
theorem dM_value_11 : decode cM_value 11 = .ok (.lconst 0, 1) := by decide +kernel
theorem dM_value_12 : decode cM_value 12 = .ok (.ldc2_w 74, 3) := by decide +kernel
theorem dM_value_15 : decode cM_value 15 = .ok (.invokestatic 54, 3) := by decide +kernel
theorem dM_value_18 : decode cM_value 18 = .ok (.ifCond .eq 7, 3) := by decide +kernel
theorem dM_value_21 : decode cM_value 21 = .ok (.iconst 0, 1) := by decide +kernel
theorem dM_value_22 : decode cM_value 22 = .ok (.goto 4, 3) := by decide +kernel
theorem dM_value_25 : decode cM_value 25 = .ok (.iconst 1, 1) := by decide +kernel
theorem dM_value_26 : decode cM_value 26 = .ok (.putfield 45, 3) := by decide +kernel
theorem dM_value_29 : decode cM_value 29 = .ok (.aload_n 0, 1) := by decide +kernel
theorem dM_value_30 : decode cM_value 30 = .ok (.getfield 45, 3) := by decide +kernel
theorem dM_value_33 : decode cM_value 33 = .ok (.ifCond .le 5, 3) := by decide +kernel
theorem dM_value_36 : decode cM_value 36 = .ok (.iconst 0, 1) := by decide +kernel
theorem dM_value_37 : decode cM_value 37 = .ok (.ireturn, 1) := by decide +kernel
theorem dM_value_38 : decode cM_value 38 = .ok (.aload_n 0, 1) := by decide +kernel
theorem dM_value_39 : decode cM_value 39 = .ok (.iload_n 1, 1) := by decide +kernel
theorem dM_value_40 : decode cM_value 40 = .ok (.invokevirtual 100, 3) := by decide +kernel
theorem dM_value_43 : decode cM_value 43 = .ok (.aload_n 0, 1) := by decide +kernel
theorem dM_value_44 : decode cM_value 44 = .ok (.getfield 28, 3) := by decide +kernel
theorem dM_value_47 : decode cM_value 47 = .ok (.bipush 64, 2) := by decide +kernel
theorem dM_value_49 : decode cM_value 49 = .ok (.iload_n 1, 1) := by decide +kernel
theorem dM_value_50 : decode cM_value 50 = .ok (.imul, 1) := by decide +kernel
theorem dM_value_51 : decode cM_value 51 = .ok (.iload_n 2, 1) := by decide +kernel
theorem dM_value_52 : decode cM_value 52 = .ok (.iadd, 1) := by decide +kernel
theorem dM_value_53 : decode cM_value 53 = .ok (.laload, 1) := by decide +kernel
theorem dM_value_54 : decode cM_value 54 = .ok (.l2i, 1) := by decide +kernel
theorem dM_value_55 : decode cM_value 55 = .ok (.ireturn, 1) := by decide +kernel
theorem dM_singular_0 : decode cM_singular 0 = .ok (.aload_n 0, 1) := by decide +kernel
theorem dM_singular_1 : decode cM_singular 1 = .ok (.aload_n 0, 1) := by decide +kernel
theorem dM_singular_2 : decode cM_singular 2 = .ok (.iload_n 1, 1) := by decide +kernel
theorem dM_singular_3 : decode cM_singular 3 = .ok (.invokevirtual 58, 3) := by decide +kernel
theorem dM_singular_6 : decode cM_singular 6 = .ok (.ifCond .ne 7, 3) := by decide +kernel
theorem dM_singular_9 : decode cM_singular 9 = .ok (.iconst 1, 1) := by decide +kernel
theorem dM_singular_10 : decode cM_singular 10 = .ok (.goto 17, 3) := by decide +kernel
theorem dM_singular_13 : decode cM_singular 13 = .ok (.aload_n 0, 1) := by decide +kernel
theorem dM_singular_14 : decode cM_singular 14 = .ok (.getfield 7, 3) := by decide +kernel
theorem dM_singular_17 : decode cM_singular 17 = .ok (.iload_n 1, 1) := by decide +kernel
theorem dM_singular_18 : decode cM_singular 18 = .ok (.iaload, 1) := by decide +kernel
theorem dM_singular_19 : decode cM_singular 19 = .ok (.ifCond .eq 7, 3) := by decide +kernel
theorem dM_singular_22 : decode cM_singular 22 = .ok (.iconst 2, 1) := by decide +kernel
theorem dM_singular_23 : decode cM_singular 23 = .ok (.goto 4, 3) := by decide +kernel
theorem dM_singular_26 : decode cM_singular 26 = .ok (.iconst 0, 1) := by decide +kernel
theorem dM_singular_27 : decode cM_singular 27 = .ok (.putfield 45, 3) := by decide +kernel
theorem dM_singular_30 : decode cM_singular 30 = .ok (.aload_n 0, 1) := by decide +kernel
theorem dM_singular_31 : decode cM_singular 31 = .ok (.getfield 45, 3) := by decide +kernel
theorem dM_singular_34 : decode cM_singular 34 = .ok (.ifCond .le 5, 3) := by decide +kernel
theorem dM_singular_37 : decode cM_singular 37 = .ok (.iconst 0, 1) := by decide +kernel
theorem dM_singular_38 : decode cM_singular 38 = .ok (.ireturn, 1) := by decide +kernel
theorem dM_singular_39 : decode cM_singular 39 = .ok (.aload_n 0, 1) := by decide +kernel
theorem dM_singular_40 : decode cM_singular 40 = .ok (.getfield 19, 3) := by decide +kernel
theorem dM_singular_43 : decode cM_singular 43 = .ok (.iload_n 1, 1) := by decide +kernel
theorem dM_singular_44 : decode cM_singular 44 = .ok (.iaload, 1) := by decide +kernel
theorem dM_singular_45 : decode cM_singular 45 = .ok (.istore_n 2, 1) := by decide +kernel
theorem dM_singular_46 : decode cM_singular 46 = .ok (.iload_n 2, 1) := by decide +kernel
theorem dM_singular_47 : decode cM_singular 47 = .ok (.bipush 64, 2) := by decide +kernel
theorem dM_singular_49 : decode cM_singular 49 = .ok (.if_icmp .ge 35, 3) := by decide +kernel
theorem dM_singular_52 : decode cM_singular 52 = .ok (.aload_n 0, 1) := by decide +kernel
theorem dM_singular_53 : decode cM_singular 53 = .ok (.iload_n 1, 1) := by decide +kernel
theorem dM_singular_54 : decode cM_singular 54 = .ok (.aload_n 0, 1) := by decide +kernel
theorem dM_singular_55 : decode cM_singular 55 = .ok (.getfield 19, 3) := by decide +kernel
theorem dM_singular_58 : decode cM_singular 58 = .ok (.iload_n 1, 1) := by decide +kernel
theorem dM_singular_59 : decode cM_singular 59 = .ok (.iaload, 1) := by decide +kernel
theorem dM_singular_60 : decode cM_singular 60 = .ok (.iload_n 2, 1) := by decide +kernel
theorem dM_singular_61 : decode cM_singular 61 = .ok (.aload_n 0, 1) := by decide +kernel
theorem dM_singular_62 : decode cM_singular 62 = .ok (.getfield 19, 3) := by decide +kernel
theorem dM_singular_65 : decode cM_singular 65 = .ok (.iload_n 1, 1) := by decide +kernel
theorem dM_singular_66 : decode cM_singular 66 = .ok (.iaload, 1) := by decide +kernel
theorem dM_singular_67 : decode cM_singular 67 = .ok (.isub, 1) := by decide +kernel
theorem dM_singular_68 : decode cM_singular 68 = .ok (.invokevirtual 86, 3) := by decide +kernel
theorem dM_singular_71 : decode cM_singular 71 = .ok (.lconst 0, 1) := by decide +kernel
theorem dM_singular_72 : decode cM_singular 72 = .ok (.lcmp, 1) := by decide +kernel
theorem dM_singular_73 : decode cM_singular 73 = .ok (.ifCond .ne 5, 3) := by decide +kernel
theorem dM_singular_76 : decode cM_singular 76 = .ok (.iload_n 2, 1) := by decide +kernel
theorem dM_singular_77 : decode cM_singular 77 = .ok (.ireturn, 1) := by decide +kernel
theorem dM_singular_78 : decode cM_singular 78 = .ok (.iinc 2 1, 3) := by decide +kernel
theorem dM_singular_81 : decode cM_singular 81 = .ok (.goto (-35), 3) := by decide +kernel
theorem dM_singular_84 : decode cM_singular 84 = .ok (.iconst (-1), 1) := by decide +kernel
theorem dM_singular_85 : decode cM_singular 85 = .ok (.ireturn, 1) := by decide +kernel
theorem dM_differ_0 : decode cM_differ 0 = .ok (.aload_n 0, 1) := by decide +kernel
theorem dM_differ_1 : decode cM_differ 1 = .ok (.aload_n 0, 1) := by decide +kernel
theorem dM_differ_2 : decode cM_differ 2 = .ok (.iload_n 1, 1) := by decide +kernel
theorem dM_differ_3 : decode cM_differ 3 = .ok (.invokevirtual 58, 3) := by decide +kernel
theorem dM_differ_6 : decode cM_differ 6 = .ok (.ifCond .eq 15, 3) := by decide +kernel
theorem dM_differ_9 : decode cM_differ 9 = .ok (.aload_n 0, 1) := by decide +kernel
theorem dM_differ_10 : decode cM_differ 10 = .ok (.iload_n 2, 1) := by decide +kernel
theorem dM_differ_11 : decode cM_differ 11 = .ok (.invokevirtual 58, 3) := by decide +kernel
theorem dM_differ_14 : decode cM_differ 14 = .ok (.ifCond .eq 7, 3) := by decide +kernel
theorem dM_differ_17 : decode cM_differ 17 = .ok (.iconst 0, 1) := by decide +kernel
theorem dM_differ_18 : decode cM_differ 18 = .ok (.goto 4, 3) := by decide +kernel
theorem dM_differ_21 : decode cM_differ 21 = .ok (.iconst 1, 1) := by decide +kernel
theorem dM_differ_22 : decode cM_differ 22 = .ok (.putfield 45, 3) := by decide +kernel
theorem dM_differ_25 : decode cM_differ 25 = .ok (.aload_n 0, 1) := by decide +kernel
theorem dM_differ_26 : decode cM_differ 26 = .ok (.getfield 45, 3) := by decide +kernel
theorem dM_differ_29 : decode cM_differ 29 = .ok (.ifCond .le 5, 3) := by decide +kernel
theorem dM_differ_32 : decode cM_differ 32 = .ok (.iconst 0, 1) := by decide +kernel
theorem dM_differ_33 : decode cM_differ 33 = .ok (.ireturn, 1) := by decide +kernel
theorem dM_differ_34 : decode cM_differ 34 = .ok (.aload_n 0, 1) := by decide +kernel
theorem dM_differ_35 : decode cM_differ 35 = .ok (.iload_n 1, 1) := by decide +kernel
theorem dM_differ_36 : decode cM_differ 36 = .ok (.iload_n 2, 1) := by decide +kernel
theorem dM_differ_37 : decode cM_differ 37 = .ok (.if_icmp .le 7, 3) := by decide +kernel
theorem dM_differ_40 : decode cM_differ 40 = .ok (.iload_n 1, 1) := by decide +kernel
theorem dM_differ_41 : decode cM_differ 41 = .ok (.goto 4, 3) := by decide +kernel
theorem dM_differ_44 : decode cM_differ 44 = .ok (.iload_n 2, 1) := by decide +kernel
theorem dM_differ_45 : decode cM_differ 45 = .ok (.invokevirtual 100, 3) := by decide +kernel
