/-! Decoded. -/
theorem dK_init_0 : decode cK_init 0 = .ok (.aload_n 0, 1) := by decide +kernel
theorem dK_init_1 : decode cK_init 1 = .ok (.iload_n 1, 1) := by decide +kernel
theorem dK_init_2 : decode cK_init 2 = .ok (.aload_n 3, 1) := by decide +kernel
theorem dK_init_3 : decode cK_init 3 = .ok (.getfield 3, 3) := by decide +kernel
theorem dK_init_6 : decode cK_init 6 = .ok (.aload 4, 2) := by decide +kernel
theorem dK_init_8 : decode cK_init 8 = .ok (.getfield 3, 3) := by decide +kernel
theorem dK_init_11 : decode cK_init 11 = .ok (.lor, 1) := by decide +kernel
theorem dK_init_12 : decode cK_init 12 = .ok (.invokespecial 9, 3) := by decide +kernel
theorem dK_init_15 : decode cK_init 15 = .ok (.aload_n 0, 1) := by decide +kernel
theorem dK_init_16 : decode cK_init 16 = .ok (.aload_n 2, 1) := by decide +kernel
theorem dK_init_17 : decode cK_init 17 = .ok (.putfield 13, 3) := by decide +kernel
theorem dK_init_20 : decode cK_init 20 = .ok (.aload_n 0, 1) := by decide +kernel
theorem dK_init_21 : decode cK_init 21 = .ok (.aload_n 3, 1) := by decide +kernel
theorem dK_init_22 : decode cK_init 22 = .ok (.getfield 19, 3) := by decide +kernel
theorem dK_init_25 : decode cK_init 25 = .ok (.putfield 23, 3) := by decide +kernel
theorem dK_init_28 : decode cK_init 28 = .ok (.aload_n 0, 1) := by decide +kernel
theorem dK_init_29 : decode cK_init 29 = .ok (.aload 4, 2) := by decide +kernel
theorem dK_init_31 : decode cK_init 31 = .ok (.getfield 19, 3) := by decide +kernel
theorem dK_init_34 : decode cK_init 34 = .ok (.putfield 26, 3) := by decide +kernel
theorem dK_init_37 : decode cK_init 37 = .ok (.aload_n 0, 1) := by decide +kernel
theorem dK_init_38 : decode cK_init 38 = .ok (.iload 5, 2) := by decide +kernel
theorem dK_init_40 : decode cK_init 40 = .ok (.putfield 29, 3) := by decide +kernel
theorem dK_init_43 : decode cK_init 43 = .ok (.return_, 1) := by decide +kernel
theorem dK_numberAt_0 : decode cK_numberAt 0 = .ok (.getstatic 33, 3) := by decide +kernel
theorem dK_numberAt_3 : decode cK_numberAt 3 = .ok (.aload_n 0, 1) := by decide +kernel
theorem dK_numberAt_4 : decode cK_numberAt 4 = .ok (.getfield 13, 3) := by decide +kernel
theorem dK_numberAt_7 : decode cK_numberAt 7 = .ok (.invokevirtual 38, 3) := by decide +kernel
theorem dK_numberAt_10 : decode cK_numberAt 10 = .ok (.iaload, 1) := by decide +kernel
theorem dK_numberAt_11 : decode cK_numberAt 11 = .ok (.tableswitch 198 1 7 #[41, 60, 76, 82, 110, 137, 171], 41) := by decide +kernel
theorem dK_numberAt_52 : decode cK_numberAt 52 = .ok (.aload_n 0, 1) := by decide +kernel
theorem dK_numberAt_53 : decode cK_numberAt 53 = .ok (.getfield 23, 3) := by decide +kernel
theorem dK_numberAt_56 : decode cK_numberAt 56 = .ok (.iload_n 1, 1) := by decide +kernel
theorem dK_numberAt_57 : decode cK_numberAt 57 = .ok (.iaload, 1) := by decide +kernel
theorem dK_numberAt_58 : decode cK_numberAt 58 = .ok (.i2l, 1) := by decide +kernel
theorem dK_numberAt_59 : decode cK_numberAt 59 = .ok (.aload_n 0, 1) := by decide +kernel
theorem dK_numberAt_60 : decode cK_numberAt 60 = .ok (.getfield 26, 3) := by decide +kernel
theorem dK_numberAt_63 : decode cK_numberAt 63 = .ok (.iload_n 1, 1) := by decide +kernel
theorem dK_numberAt_64 : decode cK_numberAt 64 = .ok (.iaload, 1) := by decide +kernel
theorem dK_numberAt_65 : decode cK_numberAt 65 = .ok (.i2l, 1) := by decide +kernel
theorem dK_numberAt_66 : decode cK_numberAt 66 = .ok (.ladd, 1) := by decide +kernel
theorem dK_numberAt_67 : decode cK_numberAt 67 = .ok (.invokestatic 44, 3) := by decide +kernel
theorem dK_numberAt_70 : decode cK_numberAt 70 = .ok (.ireturn, 1) := by decide +kernel
theorem dK_numberAt_71 : decode cK_numberAt 71 = .ok (.aload_n 0, 1) := by decide +kernel
theorem dK_numberAt_72 : decode cK_numberAt 72 = .ok (.getfield 23, 3) := by decide +kernel
theorem dK_numberAt_75 : decode cK_numberAt 75 = .ok (.iload_n 1, 1) := by decide +kernel
theorem dK_numberAt_76 : decode cK_numberAt 76 = .ok (.iaload, 1) := by decide +kernel
theorem dK_numberAt_77 : decode cK_numberAt 77 = .ok (.aload_n 0, 1) := by decide +kernel
theorem dK_numberAt_78 : decode cK_numberAt 78 = .ok (.getfield 26, 3) := by decide +kernel
theorem dK_numberAt_81 : decode cK_numberAt 81 = .ok (.iload_n 1, 1) := by decide +kernel
theorem dK_numberAt_82 : decode cK_numberAt 82 = .ok (.iaload, 1) := by decide +kernel
theorem dK_numberAt_83 : decode cK_numberAt 83 = .ok (.invokestatic 48, 3) := by decide +kernel
theorem dK_numberAt_86 : decode cK_numberAt 86 = .ok (.ireturn, 1) := by decide +kernel
theorem dK_numberAt_87 : decode cK_numberAt 87 = .ok (.aload_n 0, 1) := by decide +kernel
theorem dK_numberAt_88 : decode cK_numberAt 88 = .ok (.iload_n 1, 1) := by decide +kernel
theorem dK_numberAt_89 : decode cK_numberAt 89 = .ok (.invokevirtual 52, 3) := by decide +kernel
theorem dK_numberAt_92 : decode cK_numberAt 92 = .ok (.ireturn, 1) := by decide +kernel
theorem dK_numberAt_93 : decode cK_numberAt 93 = .ok (.iload_n 1, 1) := by decide +kernel
theorem dK_numberAt_94 : decode cK_numberAt 94 = .ok (.iconst 2, 1) := by decide +kernel
theorem dK_numberAt_95 : decode cK_numberAt 95 = .ok (.irem, 1) := by decide +kernel
theorem dK_numberAt_96 : decode cK_numberAt 96 = .ok (.ifCond .ne 14, 3) := by decide +kernel
theorem dK_numberAt_99 : decode cK_numberAt 99 = .ok (.aload_n 0, 1) := by decide +kernel
theorem dK_numberAt_100 : decode cK_numberAt 100 = .ok (.getfield 23, 3) := by decide +kernel
theorem dK_numberAt_103 : decode cK_numberAt 103 = .ok (.iload_n 1, 1) := by decide +kernel
theorem dK_numberAt_104 : decode cK_numberAt 104 = .ok (.iconst 2, 1) := by decide +kernel
theorem dK_numberAt_105 : decode cK_numberAt 105 = .ok (.idiv, 1) := by decide +kernel
theorem dK_numberAt_106 : decode cK_numberAt 106 = .ok (.iaload, 1) := by decide +kernel
theorem dK_numberAt_107 : decode cK_numberAt 107 = .ok (.goto 13, 3) := by decide +kernel
theorem dK_numberAt_110 : decode cK_numberAt 110 = .ok (.aload_n 0, 1) := by decide +kernel
theorem dK_numberAt_111 : decode cK_numberAt 111 = .ok (.getfield 26, 3) := by decide +kernel
theorem dK_numberAt_114 : decode cK_numberAt 114 = .ok (.iload_n 1, 1) := by decide +kernel
theorem dK_numberAt_115 : decode cK_numberAt 115 = .ok (.iconst 1, 1) := by decide +kernel
theorem dK_numberAt_116 : decode cK_numberAt 116 = .ok (.isub, 1) := by decide +kernel
theorem dK_numberAt_117 : decode cK_numberAt 117 = .ok (.iconst 2, 1) := by decide +kernel
theorem dK_numberAt_118 : decode cK_numberAt 118 = .ok (.idiv, 1) := by decide +kernel
theorem dK_numberAt_119 : decode cK_numberAt 119 = .ok (.iaload, 1) := by decide +kernel
theorem dK_numberAt_120 : decode cK_numberAt 120 = .ok (.ireturn, 1) := by decide +kernel
theorem dK_numberAt_121 : decode cK_numberAt 121 = .ok (.iload_n 1, 1) := by decide +kernel
theorem dK_numberAt_122 : decode cK_numberAt 122 = .ok (.aload_n 0, 1) := by decide +kernel
theorem dK_numberAt_123 : decode cK_numberAt 123 = .ok (.getfield 29, 3) := by decide +kernel
theorem dK_numberAt_126 : decode cK_numberAt 126 = .ok (.iadd, 1) := by decide +kernel
theorem dK_numberAt_127 : decode cK_numberAt 127 = .ok (.bipush 64, 2) := by decide +kernel
theorem dK_numberAt_129 : decode cK_numberAt 129 = .ok (.if_icmp .ge 17, 3) := by decide +kernel
theorem dK_numberAt_132 : decode cK_numberAt 132 = .ok (.aload_n 0, 1) := by decide +kernel
theorem dK_numberAt_133 : decode cK_numberAt 133 = .ok (.getfield 23, 3) := by decide +kernel
theorem dK_numberAt_136 : decode cK_numberAt 136 = .ok (.iload_n 1, 1) := by decide +kernel
theorem dK_numberAt_137 : decode cK_numberAt 137 = .ok (.aload_n 0, 1) := by decide +kernel
theorem dK_numberAt_138 : decode cK_numberAt 138 = .ok (.getfield 29, 3) := by decide +kernel
theorem dK_numberAt_141 : decode cK_numberAt 141 = .ok (.iadd, 1) := by decide +kernel
theorem dK_numberAt_142 : decode cK_numberAt 142 = .ok (.iaload, 1) := by decide +kernel
theorem dK_numberAt_143 : decode cK_numberAt 143 = .ok (.goto 4, 3) := by decide +kernel
theorem dK_numberAt_146 : decode cK_numberAt 146 = .ok (.iconst 0, 1) := by decide +kernel
theorem dK_numberAt_147 : decode cK_numberAt 147 = .ok (.ireturn, 1) := by decide +kernel
theorem dK_numberAt_148 : decode cK_numberAt 148 = .ok (.iload_n 1, 1) := by decide +kernel
theorem dK_numberAt_149 : decode cK_numberAt 149 = .ok (.ifCond .ne 12, 3) := by decide +kernel
theorem dK_numberAt_152 : decode cK_numberAt 152 = .ok (.aload_n 0, 1) := by decide +kernel
theorem dK_numberAt_153 : decode cK_numberAt 153 = .ok (.getfield 23, 3) := by decide +kernel
theorem dK_numberAt_156 : decode cK_numberAt 156 = .ok (.iconst 0, 1) := by decide +kernel
theorem dK_numberAt_157 : decode cK_numberAt 157 = .ok (.iaload, 1) := by decide +kernel
theorem dK_numberAt_158 : decode cK_numberAt 158 = .ok (.goto 23, 3) := by decide +kernel
theorem dK_numberAt_161 : decode cK_numberAt 161 = .ok (.aload_n 0, 1) := by decide +kernel
theorem dK_numberAt_162 : decode cK_numberAt 162 = .ok (.getfield 56, 3) := by decide +kernel
theorem dK_numberAt_165 : decode cK_numberAt 165 = .ok (.iload_n 1, 1) := by decide +kernel
theorem dK_numberAt_166 : decode cK_numberAt 166 = .ok (.iconst 1, 1) := by decide +kernel
theorem dK_numberAt_167 : decode cK_numberAt 167 = .ok (.isub, 1) := by decide +kernel
theorem dK_numberAt_168 : decode cK_numberAt 168 = .ok (.iaload, 1) := by decide +kernel
theorem dK_numberAt_169 : decode cK_numberAt 169 = .ok (.i2l, 1) := by decide +kernel
theorem dK_numberAt_170 : decode cK_numberAt 170 = .ok (.aload_n 0, 1) := by decide +kernel
theorem dK_numberAt_171 : decode cK_numberAt 171 = .ok (.getfield 23, 3) := by decide +kernel
theorem dK_numberAt_174 : decode cK_numberAt 174 = .ok (.iload_n 1, 1) := by decide +kernel
theorem dK_numberAt_175 : decode cK_numberAt 175 = .ok (.iaload, 1) := by decide +kernel
theorem dK_numberAt_176 : decode cK_numberAt 176 = .ok (.i2l, 1) := by decide +kernel
theorem dK_numberAt_177 : decode cK_numberAt 177 = .ok (.ladd, 1) := by decide +kernel
theorem dK_numberAt_178 : decode cK_numberAt 178 = .ok (.invokestatic 44, 3) := by decide +kernel
theorem dK_numberAt_181 : decode cK_numberAt 181 = .ok (.ireturn, 1) := by decide +kernel
theorem dK_numberAt_182 : decode cK_numberAt 182 = .ok (.iload_n 1, 1) := by decide +kernel
theorem dK_numberAt_183 : decode cK_numberAt 183 = .ok (.iconst 1, 1) := by decide +kernel
theorem dK_numberAt_184 : decode cK_numberAt 184 = .ok (.iadd, 1) := by decide +kernel
theorem dK_numberAt_185 : decode cK_numberAt 185 = .ok (.bipush 64, 2) := by decide +kernel
theorem dK_numberAt_187 : decode cK_numberAt 187 = .ok (.if_icmp .ge 20, 3) := by decide +kernel
theorem dK_numberAt_190 : decode cK_numberAt 190 = .ok (.iload_n 1, 1) := by decide +kernel
theorem dK_numberAt_191 : decode cK_numberAt 191 = .ok (.iconst 1, 1) := by decide +kernel
theorem dK_numberAt_192 : decode cK_numberAt 192 = .ok (.iadd, 1) := by decide +kernel
theorem dK_numberAt_193 : decode cK_numberAt 193 = .ok (.aload_n 0, 1) := by decide +kernel
theorem dK_numberAt_194 : decode cK_numberAt 194 = .ok (.getfield 23, 3) := by decide +kernel
theorem dK_numberAt_197 : decode cK_numberAt 197 = .ok (.iload_n 1, 1) := by decide +kernel
theorem dK_numberAt_198 : decode cK_numberAt 198 = .ok (.iconst 1, 1) := by decide +kernel
theorem dK_numberAt_199 : decode cK_numberAt 199 = .ok (.iadd, 1) := by decide +kernel
theorem dK_numberAt_200 : decode cK_numberAt 200 = .ok (.iaload, 1) := by decide +kernel
theorem dK_numberAt_201 : decode cK_numberAt 201 = .ok (.invokestatic 48, 3) := by decide +kernel
theorem dK_numberAt_204 : decode cK_numberAt 204 = .ok (.goto 4, 3) := by decide +kernel
theorem dK_numberAt_207 : decode cK_numberAt 207 = .ok (.iconst 0, 1) := by decide +kernel
theorem dK_numberAt_208 : decode cK_numberAt 208 = .ok (.ireturn, 1) := by decide +kernel
theorem dK_numberAt_209 : decode cK_numberAt 209 = .ok (.iconst 0, 1) := by decide +kernel
theorem dK_numberAt_210 : decode cK_numberAt 210 = .ok (.ireturn, 1) := by decide +kernel
theorem dK_convolution_0 : decode cK_convolution 0 = .ok (.lconst 0, 1) := by decide +kernel
theorem dK_convolution_1 : decode cK_convolution 1 = .ok (.lstore_n 2, 1) := by decide +kernel
theorem dK_convolution_2 : decode cK_convolution 2 = .ok (.iconst 0, 1) := by decide +kernel
theorem dK_convolution_3 : decode cK_convolution 3 = .ok (.istore 4, 2) := by decide +kernel
theorem dK_convolution_5 : decode cK_convolution 5 = .ok (.iload 4, 2) := by decide +kernel
theorem dK_convolution_7 : decode cK_convolution 7 = .ok (.iload_n 1, 1) := by decide +kernel
theorem dK_convolution_8 : decode cK_convolution 8 = .ok (.if_icmp .gt 31, 3) := by decide +kernel
theorem dK_convolution_11 : decode cK_convolution 11 = .ok (.lload_n 2, 1) := by decide +kernel
theorem dK_convolution_12 : decode cK_convolution 12 = .ok (.aload_n 0, 1) := by decide +kernel
theorem dK_convolution_13 : decode cK_convolution 13 = .ok (.getfield 23, 3) := by decide +kernel
theorem dK_convolution_16 : decode cK_convolution 16 = .ok (.iload 4, 2) := by decide +kernel
theorem dK_convolution_18 : decode cK_convolution 18 = .ok (.iaload, 1) := by decide +kernel
theorem dK_convolution_19 : decode cK_convolution 19 = .ok (.i2l, 1) := by decide +kernel
theorem dK_convolution_20 : decode cK_convolution 20 = .ok (.aload_n 0, 1) := by decide +kernel
theorem dK_convolution_21 : decode cK_convolution 21 = .ok (.getfield 26, 3) := by decide +kernel
theorem dK_convolution_24 : decode cK_convolution 24 = .ok (.iload_n 1, 1) := by decide +kernel
theorem dK_convolution_25 : decode cK_convolution 25 = .ok (.iload 4, 2) := by decide +kernel
theorem dK_convolution_27 : decode cK_convolution 27 = .ok (.isub, 1) := by decide +kernel
theorem dK_convolution_28 : decode cK_convolution 28 = .ok (.iaload, 1) := by decide +kernel
theorem dK_convolution_29 : decode cK_convolution 29 = .ok (.i2l, 1) := by decide +kernel
theorem dK_convolution_30 : decode cK_convolution 30 = .ok (.lmul, 1) := by decide +kernel
theorem dK_convolution_31 : decode cK_convolution 31 = .ok (.ladd, 1) := by decide +kernel
theorem dK_convolution_32 : decode cK_convolution 32 = .ok (.lstore_n 2, 1) := by decide +kernel
theorem dK_convolution_33 : decode cK_convolution 33 = .ok (.iinc 4 1, 3) := by decide +kernel
theorem dK_convolution_36 : decode cK_convolution 36 = .ok (.goto (-31), 3) := by decide +kernel
theorem dK_convolution_39 : decode cK_convolution 39 = .ok (.lload_n 2, 1) := by decide +kernel
theorem dK_convolution_40 : decode cK_convolution 40 = .ok (.invokestatic 44, 3) := by decide +kernel
theorem dK_convolution_43 : decode cK_convolution 43 = .ok (.ireturn, 1) := by decide +kernel
