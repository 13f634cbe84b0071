/-! Decoded. -/
theorem dM_guess_120 : decode cM_guess 120 = .ok (.iload 7, 2) := by decide +kernel
theorem dM_guess_122 : decode cM_guess 122 = .ok (.bipush 20, 2) := by decide +kernel
theorem dM_guess_124 : decode cM_guess 124 = .ok (.if_icmp .ge 81, 3) := by decide +kernel
theorem dM_guess_127 : decode cM_guess 127 = .ok (.aload_n 0, 1) := by decide +kernel
theorem dM_guess_128 : decode cM_guess 128 = .ok (.getfield 32, 3) := by decide +kernel
theorem dM_guess_131 : decode cM_guess 131 = .ok (.bipush 20, 2) := by decide +kernel
theorem dM_guess_133 : decode cM_guess 133 = .ok (.iload 5, 2) := by decide +kernel
theorem dM_guess_135 : decode cM_guess 135 = .ok (.imul, 1) := by decide +kernel
theorem dM_guess_136 : decode cM_guess 136 = .ok (.iload 7, 2) := by decide +kernel
theorem dM_guess_138 : decode cM_guess 138 = .ok (.iadd, 1) := by decide +kernel
theorem dM_guess_139 : decode cM_guess 139 = .ok (.iload 7, 2) := by decide +kernel
theorem dM_guess_141 : decode cM_guess 141 = .ok (.iload 4, 2) := by decide +kernel
theorem dM_guess_143 : decode cM_guess 143 = .ok (.if_icmp .lt 7, 3) := by decide +kernel
theorem dM_guess_146 : decode cM_guess 146 = .ok (.lconst 0, 1) := by decide +kernel
theorem dM_guess_147 : decode cM_guess 147 = .ok (.goto 51, 3) := by decide +kernel
theorem dM_guess_150 : decode cM_guess 150 = .ok (.iload 7, 2) := by decide +kernel
theorem dM_guess_152 : decode cM_guess 152 = .ok (.iload 6, 2) := by decide +kernel
theorem dM_guess_154 : decode cM_guess 154 = .ok (.if_icmp .ne 7, 3) := by decide +kernel
theorem dM_guess_157 : decode cM_guess 157 = .ok (.lconst 1, 1) := by decide +kernel
theorem dM_guess_158 : decode cM_guess 158 = .ok (.goto 40, 3) := by decide +kernel
theorem dM_guess_161 : decode cM_guess 161 = .ok (.aload_n 0, 1) := by decide +kernel
theorem dM_guess_162 : decode cM_guess 162 = .ok (.getfield 38, 3) := by decide +kernel
theorem dM_guess_165 : decode cM_guess 165 = .ok (.iload 7, 2) := by decide +kernel
theorem dM_guess_167 : decode cM_guess 167 = .ok (.iaload, 1) := by decide +kernel
theorem dM_guess_168 : decode cM_guess 168 = .ok (.iconst (-1), 1) := by decide +kernel
theorem dM_guess_169 : decode cM_guess 169 = .ok (.if_icmp .ne 7, 3) := by decide +kernel
theorem dM_guess_172 : decode cM_guess 172 = .ok (.lconst 0, 1) := by decide +kernel
theorem dM_guess_173 : decode cM_guess 173 = .ok (.goto 25, 3) := by decide +kernel
theorem dM_guess_176 : decode cM_guess 176 = .ok (.aload_n 0, 1) := by decide +kernel
theorem dM_guess_177 : decode cM_guess 177 = .ok (.getfield 35, 3) := by decide +kernel
theorem dM_guess_180 : decode cM_guess 180 = .ok (.bipush 20, 2) := by decide +kernel
theorem dM_guess_182 : decode cM_guess 182 = .ok (.aload_n 0, 1) := by decide +kernel
theorem dM_guess_183 : decode cM_guess 183 = .ok (.getfield 38, 3) := by decide +kernel
theorem dM_guess_186 : decode cM_guess 186 = .ok (.iload 7, 2) := by decide +kernel
theorem dM_guess_188 : decode cM_guess 188 = .ok (.iaload, 1) := by decide +kernel
theorem dM_guess_189 : decode cM_guess 189 = .ok (.imul, 1) := by decide +kernel
theorem dM_guess_190 : decode cM_guess 190 = .ok (.iload 6, 2) := by decide +kernel
theorem dM_guess_192 : decode cM_guess 192 = .ok (.iadd, 1) := by decide +kernel
theorem dM_guess_193 : decode cM_guess 193 = .ok (.laload, 1) := by decide +kernel
theorem dM_guess_194 : decode cM_guess 194 = .ok (.lneg, 1) := by decide +kernel
theorem dM_guess_195 : decode cM_guess 195 = .ok (.invokestatic 70, 3) := by decide +kernel
theorem dM_guess_198 : decode cM_guess 198 = .ok (.lastore, 1) := by decide +kernel
theorem dM_guess_199 : decode cM_guess 199 = .ok (.iinc 7 1, 3) := by decide +kernel
theorem dM_guess_202 : decode cM_guess 202 = .ok (.goto (-82), 3) := by decide +kernel
theorem dM_guess_205 : decode cM_guess 205 = .ok (.iinc 5 1, 3) := by decide +kernel
theorem dM_guess_208 : decode cM_guess 208 = .ok (.iinc 6 1, 3) := by decide +kernel
theorem dM_guess_211 : decode cM_guess 211 = .ok (.goto (-115), 3) := by decide +kernel
theorem dM_guess_214 : decode cM_guess 214 = .ok (.aload_n 0, 1) := by decide +kernel
theorem dM_guess_215 : decode cM_guess 215 = .ok (.getfield 113, 3) := by decide +kernel
theorem dM_guess_218 : decode cM_guess 218 = .ok (.ireturn, 1) := by decide +kernel
theorem dM_rule_0 : decode cM_rule 0 = .ok (.aload_n 0, 1) := by decide +kernel
theorem dM_rule_1 : decode cM_rule 1 = .ok (.iload_n 1, 1) := by decide +kernel
theorem dM_rule_2 : decode cM_rule 2 = .ok (.i2l, 1) := by decide +kernel
theorem dM_rule_3 : decode cM_rule 3 = .ok (.lconst 0, 1) := by decide +kernel
theorem dM_rule_4 : decode cM_rule 4 = .ok (.aload_n 0, 1) := by decide +kernel
theorem dM_rule_5 : decode cM_rule 5 = .ok (.getfield 113, 3) := by decide +kernel
theorem dM_rule_8 : decode cM_rule 8 = .ok (.iconst 1, 1) := by decide +kernel
theorem dM_rule_9 : decode cM_rule 9 = .ok (.isub, 1) := by decide +kernel
theorem dM_rule_10 : decode cM_rule 10 = .ok (.i2l, 1) := by decide +kernel
theorem dM_rule_11 : decode cM_rule 11 = .ok (.invokestatic 54, 3) := by decide +kernel
theorem dM_rule_14 : decode cM_rule 14 = .ok (.ifCond .eq 7, 3) := by decide +kernel
theorem dM_rule_17 : decode cM_rule 17 = .ok (.iconst 0, 1) := by decide +kernel
theorem dM_rule_18 : decode cM_rule 18 = .ok (.goto 4, 3) := by decide +kernel
theorem dM_rule_21 : decode cM_rule 21 = .ok (.iconst 1, 1) := by decide +kernel
theorem dM_rule_22 : decode cM_rule 22 = .ok (.putfield 45, 3) := by decide +kernel
theorem dM_rule_25 : decode cM_rule 25 = .ok (.aload_n 0, 1) := by decide +kernel
theorem dM_rule_26 : decode cM_rule 26 = .ok (.getfield 45, 3) := by decide +kernel
theorem dM_rule_29 : decode cM_rule 29 = .ok (.ifCond .gt 31, 3) := by decide +kernel
theorem dM_rule_32 : decode cM_rule 32 = .ok (.iload_n 2, 1) := by decide +kernel
theorem dM_rule_33 : decode cM_rule 33 = .ok (.i2l, 1) := by decide +kernel
theorem dM_rule_34 : decode cM_rule 34 = .ok (.lconst 0, 1) := by decide +kernel
theorem dM_rule_35 : decode cM_rule 35 = .ok (.aload_n 0, 1) := by decide +kernel
theorem dM_rule_36 : decode cM_rule 36 = .ok (.getfield 116, 3) := by decide +kernel
theorem dM_rule_39 : decode cM_rule 39 = .ok (.i2l, 1) := by decide +kernel
theorem dM_rule_40 : decode cM_rule 40 = .ok (.invokestatic 54, 3) := by decide +kernel
theorem dM_rule_43 : decode cM_rule 43 = .ok (.ifCond .eq 17, 3) := by decide +kernel
theorem dM_rule_46 : decode cM_rule 46 = .ok (.iload_n 3, 1) := by decide +kernel
theorem dM_rule_47 : decode cM_rule 47 = .ok (.i2l, 1) := by decide +kernel
theorem dM_rule_48 : decode cM_rule 48 = .ok (.lconst 0, 1) := by decide +kernel
theorem dM_rule_49 : decode cM_rule 49 = .ok (.aload_n 0, 1) := by decide +kernel
theorem dM_rule_50 : decode cM_rule 50 = .ok (.getfield 119, 3) := by decide +kernel
theorem dM_rule_53 : decode cM_rule 53 = .ok (.i2l, 1) := by decide +kernel
theorem dM_rule_54 : decode cM_rule 54 = .ok (.invokestatic 54, 3) := by decide +kernel
theorem dM_rule_57 : decode cM_rule 57 = .ok (.ifCond .ne 5, 3) := by decide +kernel
theorem dM_rule_60 : decode cM_rule 60 = .ok (.iconst 0, 1) := by decide +kernel
theorem dM_rule_61 : decode cM_rule 61 = .ok (.ireturn, 1) := by decide +kernel
theorem dM_rule_62 : decode cM_rule 62 = .ok (.aload_n 0, 1) := by decide +kernel
theorem dM_rule_63 : decode cM_rule 63 = .ok (.getfield 32, 3) := by decide +kernel
theorem dM_rule_66 : decode cM_rule 66 = .ok (.bipush 20, 2) := by decide +kernel
theorem dM_rule_68 : decode cM_rule 68 = .ok (.iload_n 1, 1) := by decide +kernel
theorem dM_rule_69 : decode cM_rule 69 = .ok (.imul, 1) := by decide +kernel
theorem dM_rule_70 : decode cM_rule 70 = .ok (.aload_n 0, 1) := by decide +kernel
theorem dM_rule_71 : decode cM_rule 71 = .ok (.getfield 116, 3) := by decide +kernel
theorem dM_rule_74 : decode cM_rule 74 = .ok (.iload_n 2, 1) := by decide +kernel
theorem dM_rule_75 : decode cM_rule 75 = .ok (.isub, 1) := by decide +kernel
theorem dM_rule_76 : decode cM_rule 76 = .ok (.aload_n 0, 1) := by decide +kernel
theorem dM_rule_77 : decode cM_rule 77 = .ok (.getfield 119, 3) := by decide +kernel
theorem dM_rule_80 : decode cM_rule 80 = .ok (.iconst 1, 1) := by decide +kernel
theorem dM_rule_81 : decode cM_rule 81 = .ok (.iadd, 1) := by decide +kernel
theorem dM_rule_82 : decode cM_rule 82 = .ok (.imul, 1) := by decide +kernel
theorem dM_rule_83 : decode cM_rule 83 = .ok (.iadd, 1) := by decide +kernel
theorem dM_rule_84 : decode cM_rule 84 = .ok (.aload_n 0, 1) := by decide +kernel
theorem dM_rule_85 : decode cM_rule 85 = .ok (.getfield 119, 3) := by decide +kernel
theorem dM_rule_88 : decode cM_rule 88 = .ok (.iadd, 1) := by decide +kernel
theorem dM_rule_89 : decode cM_rule 89 = .ok (.iload_n 3, 1) := by decide +kernel
theorem dM_rule_90 : decode cM_rule 90 = .ok (.isub, 1) := by decide +kernel
theorem dM_rule_91 : decode cM_rule 91 = .ok (.laload, 1) := by decide +kernel
theorem dM_rule_92 : decode cM_rule 92 = .ok (.l2i, 1) := by decide +kernel
theorem dM_rule_93 : decode cM_rule 93 = .ok (.ireturn, 1) := by decide +kernel
theorem dM_least_0 : decode cM_least 0 = .ok (.aload_n 0, 1) := by decide +kernel
theorem dM_least_1 : decode cM_least 1 = .ok (.aload_n 0, 1) := by decide +kernel
theorem dM_least_2 : decode cM_least 2 = .ok (.iload_n 1, 1) := by decide +kernel
theorem dM_least_3 : decode cM_least 3 = .ok (.invokevirtual 58, 3) := by decide +kernel
theorem dM_least_6 : decode cM_least 6 = .ok (.ifCond .ne 7, 3) := by decide +kernel
theorem dM_least_9 : decode cM_least 9 = .ok (.iconst 1, 1) := by decide +kernel
theorem dM_least_10 : decode cM_least 10 = .ok (.goto 20, 3) := by decide +kernel
theorem dM_least_13 : decode cM_least 13 = .ok (.iload_n 2, 1) := by decide +kernel
theorem dM_least_14 : decode cM_least 14 = .ok (.i2l, 1) := by decide +kernel
theorem dM_least_15 : decode cM_least 15 = .ok (.lconst 0, 1) := by decide +kernel
theorem dM_least_16 : decode cM_least 16 = .ok (.ldc2_w 62, 3) := by decide +kernel
theorem dM_least_19 : decode cM_least 19 = .ok (.invokestatic 54, 3) := by decide +kernel
theorem dM_least_22 : decode cM_least 22 = .ok (.ifCond .ne 7, 3) := by decide +kernel
theorem dM_least_25 : decode cM_least 25 = .ok (.iconst 2, 1) := by decide +kernel
theorem dM_least_26 : decode cM_least 26 = .ok (.goto 4, 3) := by decide +kernel
theorem dM_least_29 : decode cM_least 29 = .ok (.iconst 0, 1) := by decide +kernel
theorem dM_least_30 : decode cM_least 30 = .ok (.putfield 45, 3) := by decide +kernel
theorem dM_least_33 : decode cM_least 33 = .ok (.aload_n 0, 1) := by decide +kernel
theorem dM_least_34 : decode cM_least 34 = .ok (.getfield 45, 3) := by decide +kernel
theorem dM_least_37 : decode cM_least 37 = .ok (.ifCond .le 5, 3) := by decide +kernel
theorem dM_least_40 : decode cM_least 40 = .ok (.iconst 0, 1) := by decide +kernel
theorem dM_least_41 : decode cM_least 41 = .ok (.ireturn, 1) := by decide +kernel
theorem dM_least_42 : decode cM_least 42 = .ok (.iconst 0, 1) := by decide +kernel
theorem dM_least_43 : decode cM_least 43 = .ok (.istore_n 3, 1) := by decide +kernel
theorem dM_least_44 : decode cM_least 44 = .ok (.iload_n 3, 1) := by decide +kernel
theorem dM_least_45 : decode cM_least 45 = .ok (.iconst 5, 1) := by decide +kernel
theorem dM_least_46 : decode cM_least 46 = .ok (.if_icmp .ge 32, 3) := by decide +kernel
theorem dM_least_49 : decode cM_least 49 = .ok (.aload_n 0, 1) := by decide +kernel
theorem dM_least_50 : decode cM_least 50 = .ok (.iload_n 1, 1) := by decide +kernel
theorem dM_least_51 : decode cM_least 51 = .ok (.iload_n 3, 1) := by decide +kernel
theorem dM_least_52 : decode cM_least 52 = .ok (.iload_n 2, 1) := by decide +kernel
theorem dM_least_53 : decode cM_least 53 = .ok (.invokevirtual 106, 3) := by decide +kernel
theorem dM_least_56 : decode cM_least 56 = .ok (.aload_n 0, 1) := by decide +kernel
theorem dM_least_57 : decode cM_least 57 = .ok (.iload_n 3, 1) := by decide +kernel
theorem dM_least_58 : decode cM_least 58 = .ok (.iconst 1, 1) := by decide +kernel
theorem dM_least_59 : decode cM_least 59 = .ok (.iadd, 1) := by decide +kernel
theorem dM_least_60 : decode cM_least 60 = .ok (.iload_n 2, 1) := by decide +kernel
theorem dM_least_61 : decode cM_least 61 = .ok (.iconst 1, 1) := by decide +kernel
theorem dM_least_62 : decode cM_least 62 = .ok (.iadd, 1) := by decide +kernel
theorem dM_least_63 : decode cM_least 63 = .ok (.imul, 1) := by decide +kernel
theorem dM_least_64 : decode cM_least 64 = .ok (.invokevirtual 110, 3) := by decide +kernel
theorem dM_least_67 : decode cM_least 67 = .ok (.ifCond .le 5, 3) := by decide +kernel
theorem dM_least_70 : decode cM_least 70 = .ok (.iload_n 3, 1) := by decide +kernel
theorem dM_least_71 : decode cM_least 71 = .ok (.ireturn, 1) := by decide +kernel
theorem dM_least_72 : decode cM_least 72 = .ok (.iinc 3 1, 3) := by decide +kernel
theorem dM_least_75 : decode cM_least 75 = .ok (.goto (-31), 3) := by decide +kernel
theorem dM_least_78 : decode cM_least 78 = .ok (.iconst (-1), 1) := by decide +kernel
theorem dM_least_79 : decode cM_least 79 = .ok (.ireturn, 1) := by decide +kernel
