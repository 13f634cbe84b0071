/-! Decoded. -/
theorem dR_init_0 : decode cR_init 0 = .ok (.aload_n 0, 1) := by decide +kernel
theorem dR_init_1 : decode cR_init 1 = .ok (.iload_n 1, 1) := by decide +kernel
theorem dR_init_2 : decode cR_init 2 = .ok (.lconst 0, 1) := by decide +kernel
theorem dR_init_3 : decode cR_init 3 = .ok (.invokespecial 3, 3) := by decide +kernel
theorem dR_init_6 : decode cR_init 6 = .ok (.aload_n 0, 1) := by decide +kernel
theorem dR_init_7 : decode cR_init 7 = .ok (.bipush 64, 2) := by decide +kernel
theorem dR_init_9 : decode cR_init 9 = .ok (.newarray .int, 2) := by decide +kernel
theorem dR_init_11 : decode cR_init 11 = .ok (.putfield 9, 3) := by decide +kernel
theorem dR_init_14 : decode cR_init 14 = .ok (.aload_n 0, 1) := by decide +kernel
theorem dR_init_15 : decode cR_init 15 = .ok (.iload_n 2, 1) := by decide +kernel
theorem dR_init_16 : decode cR_init 16 = .ok (.putfield 15, 3) := by decide +kernel
theorem dR_init_19 : decode cR_init 19 = .ok (.aload_n 0, 1) := by decide +kernel
theorem dR_init_20 : decode cR_init 20 = .ok (.iload_n 2, 1) := by decide +kernel
theorem dR_init_21 : decode cR_init 21 = .ok (.iconst 1, 1) := by decide +kernel
theorem dR_init_22 : decode cR_init 22 = .ok (.iadd, 1) := by decide +kernel
theorem dR_init_23 : decode cR_init 23 = .ok (.iconst 3, 1) := by decide +kernel
theorem dR_init_24 : decode cR_init 24 = .ok (.imul, 1) := by decide +kernel
theorem dR_init_25 : decode cR_init 25 = .ok (.newarray .int, 2) := by decide +kernel
theorem dR_init_27 : decode cR_init 27 = .ok (.putfield 19, 3) := by decide +kernel
theorem dR_init_30 : decode cR_init 30 = .ok (.return_, 1) := by decide +kernel
theorem dR_numberAt_0 : decode cR_numberAt 0 = .ok (.iload_n 1, 1) := by decide +kernel
theorem dR_numberAt_1 : decode cR_numberAt 1 = .ok (.aload_n 0, 1) := by decide +kernel
theorem dR_numberAt_2 : decode cR_numberAt 2 = .ok (.getfield 15, 3) := by decide +kernel
theorem dR_numberAt_5 : decode cR_numberAt 5 = .ok (.isub, 1) := by decide +kernel
theorem dR_numberAt_6 : decode cR_numberAt 6 = .ok (.istore_n 2, 1) := by decide +kernel
theorem dR_numberAt_7 : decode cR_numberAt 7 = .ok (.iload_n 2, 1) := by decide +kernel
theorem dR_numberAt_8 : decode cR_numberAt 8 = .ok (.ifCond .ge 7, 3) := by decide +kernel
theorem dR_numberAt_11 : decode cR_numberAt 11 = .ok (.iconst 0, 1) := by decide +kernel
theorem dR_numberAt_12 : decode cR_numberAt 12 = .ok (.goto 12, 3) := by decide +kernel
theorem dR_numberAt_15 : decode cR_numberAt 15 = .ok (.aload_n 0, 1) := by decide +kernel
theorem dR_numberAt_16 : decode cR_numberAt 16 = .ok (.aload_n 0, 1) := by decide +kernel
theorem dR_numberAt_17 : decode cR_numberAt 17 = .ok (.getfield 15, 3) := by decide +kernel
theorem dR_numberAt_20 : decode cR_numberAt 20 = .ok (.iload_n 2, 1) := by decide +kernel
theorem dR_numberAt_21 : decode cR_numberAt 21 = .ok (.invokevirtual 22, 3) := by decide +kernel
theorem dR_numberAt_24 : decode cR_numberAt 24 = .ok (.istore_n 3, 1) := by decide +kernel
theorem dR_numberAt_25 : decode cR_numberAt 25 = .ok (.iload_n 3, 1) := by decide +kernel
theorem dR_numberAt_26 : decode cR_numberAt 26 = .ok (.ifCond .ne 10, 3) := by decide +kernel
theorem dR_numberAt_29 : decode cR_numberAt 29 = .ok (.aload_n 0, 1) := by decide +kernel
theorem dR_numberAt_30 : decode cR_numberAt 30 = .ok (.getfield 9, 3) := by decide +kernel
theorem dR_numberAt_33 : decode cR_numberAt 33 = .ok (.iload_n 1, 1) := by decide +kernel
theorem dR_numberAt_34 : decode cR_numberAt 34 = .ok (.iaload, 1) := by decide +kernel
theorem dR_numberAt_35 : decode cR_numberAt 35 = .ok (.ireturn, 1) := by decide +kernel
theorem dR_numberAt_36 : decode cR_numberAt 36 = .ok (.lconst 0, 1) := by decide +kernel
theorem dR_numberAt_37 : decode cR_numberAt 37 = .ok (.lstore 4, 2) := by decide +kernel
theorem dR_numberAt_39 : decode cR_numberAt 39 = .ok (.iconst 0, 1) := by decide +kernel
theorem dR_numberAt_40 : decode cR_numberAt 40 = .ok (.istore 6, 2) := by decide +kernel
theorem dR_numberAt_42 : decode cR_numberAt 42 = .ok (.iload 6, 2) := by decide +kernel
theorem dR_numberAt_44 : decode cR_numberAt 44 = .ok (.aload_n 0, 1) := by decide +kernel
theorem dR_numberAt_45 : decode cR_numberAt 45 = .ok (.getfield 15, 3) := by decide +kernel
theorem dR_numberAt_48 : decode cR_numberAt 48 = .ok (.if_icmp .ge 33, 3) := by decide +kernel
theorem dR_numberAt_51 : decode cR_numberAt 51 = .ok (.lload 4, 2) := by decide +kernel
theorem dR_numberAt_53 : decode cR_numberAt 53 = .ok (.aload_n 0, 1) := by decide +kernel
theorem dR_numberAt_54 : decode cR_numberAt 54 = .ok (.iload 6, 2) := by decide +kernel
theorem dR_numberAt_56 : decode cR_numberAt 56 = .ok (.iload_n 2, 1) := by decide +kernel
theorem dR_numberAt_57 : decode cR_numberAt 57 = .ok (.invokevirtual 22, 3) := by decide +kernel
theorem dR_numberAt_60 : decode cR_numberAt 60 = .ok (.i2l, 1) := by decide +kernel
theorem dR_numberAt_61 : decode cR_numberAt 61 = .ok (.aload_n 0, 1) := by decide +kernel
theorem dR_numberAt_62 : decode cR_numberAt 62 = .ok (.getfield 26, 3) := by decide +kernel
theorem dR_numberAt_65 : decode cR_numberAt 65 = .ok (.iload_n 2, 1) := by decide +kernel
theorem dR_numberAt_66 : decode cR_numberAt 66 = .ok (.iload 6, 2) := by decide +kernel
theorem dR_numberAt_68 : decode cR_numberAt 68 = .ok (.iadd, 1) := by decide +kernel
theorem dR_numberAt_69 : decode cR_numberAt 69 = .ok (.iaload, 1) := by decide +kernel
theorem dR_numberAt_70 : decode cR_numberAt 70 = .ok (.i2l, 1) := by decide +kernel
theorem dR_numberAt_71 : decode cR_numberAt 71 = .ok (.lmul, 1) := by decide +kernel
theorem dR_numberAt_72 : decode cR_numberAt 72 = .ok (.ladd, 1) := by decide +kernel
theorem dR_numberAt_73 : decode cR_numberAt 73 = .ok (.lstore 4, 2) := by decide +kernel
theorem dR_numberAt_75 : decode cR_numberAt 75 = .ok (.iinc 6 1, 3) := by decide +kernel
theorem dR_numberAt_78 : decode cR_numberAt 78 = .ok (.goto (-36), 3) := by decide +kernel
theorem dR_numberAt_81 : decode cR_numberAt 81 = .ok (.lload 4, 2) := by decide +kernel
theorem dR_numberAt_83 : decode cR_numberAt 83 = .ok (.lneg, 1) := by decide +kernel
theorem dR_numberAt_84 : decode cR_numberAt 84 = .ok (.invokestatic 29, 3) := by decide +kernel
theorem dR_numberAt_87 : decode cR_numberAt 87 = .ok (.iload_n 3, 1) := by decide +kernel
theorem dR_numberAt_88 : decode cR_numberAt 88 = .ok (.invokestatic 33, 3) := by decide +kernel
theorem dR_numberAt_91 : decode cR_numberAt 91 = .ok (.invokestatic 37, 3) := by decide +kernel
theorem dR_numberAt_94 : decode cR_numberAt 94 = .ok (.ireturn, 1) := by decide +kernel
theorem dR_firstSingular_0 : decode cR_firstSingular 0 = .ok (.aload_n 0, 1) := by decide +kernel
theorem dR_firstSingular_1 : decode cR_firstSingular 1 = .ok (.getfield 15, 3) := by decide +kernel
theorem dR_firstSingular_4 : decode cR_firstSingular 4 = .ok (.istore_n 1, 1) := by decide +kernel
theorem dR_firstSingular_5 : decode cR_firstSingular 5 = .ok (.iload_n 1, 1) := by decide +kernel
theorem dR_firstSingular_6 : decode cR_firstSingular 6 = .ok (.bipush 64, 2) := by decide +kernel
theorem dR_firstSingular_8 : decode cR_firstSingular 8 = .ok (.if_icmp .ge 28, 3) := by decide +kernel
theorem dR_firstSingular_11 : decode cR_firstSingular 11 = .ok (.aload_n 0, 1) := by decide +kernel
theorem dR_firstSingular_12 : decode cR_firstSingular 12 = .ok (.aload_n 0, 1) := by decide +kernel
theorem dR_firstSingular_13 : decode cR_firstSingular 13 = .ok (.getfield 15, 3) := by decide +kernel
theorem dR_firstSingular_16 : decode cR_firstSingular 16 = .ok (.iload_n 1, 1) := by decide +kernel
theorem dR_firstSingular_17 : decode cR_firstSingular 17 = .ok (.aload_n 0, 1) := by decide +kernel
theorem dR_firstSingular_18 : decode cR_firstSingular 18 = .ok (.getfield 15, 3) := by decide +kernel
theorem dR_firstSingular_21 : decode cR_firstSingular 21 = .ok (.isub, 1) := by decide +kernel
theorem dR_firstSingular_22 : decode cR_firstSingular 22 = .ok (.invokevirtual 22, 3) := by decide +kernel
theorem dR_firstSingular_25 : decode cR_firstSingular 25 = .ok (.ifCond .ne 5, 3) := by decide +kernel
theorem dR_firstSingular_28 : decode cR_firstSingular 28 = .ok (.iload_n 1, 1) := by decide +kernel
theorem dR_firstSingular_29 : decode cR_firstSingular 29 = .ok (.ireturn, 1) := by decide +kernel
theorem dR_firstSingular_30 : decode cR_firstSingular 30 = .ok (.iinc 1 1, 3) := by decide +kernel
theorem dR_firstSingular_33 : decode cR_firstSingular 33 = .ok (.goto (-28), 3) := by decide +kernel
theorem dR_firstSingular_36 : decode cR_firstSingular 36 = .ok (.iconst (-1), 1) := by decide +kernel
theorem dR_firstSingular_37 : decode cR_firstSingular 37 = .ok (.ireturn, 1) := by decide +kernel
theorem dR_factorAt_0 : decode cR_factorAt 0 = .ok (.iload_n 1, 1) := by decide +kernel
theorem dR_factorAt_1 : decode cR_factorAt 1 = .ok (.iconst 3, 1) := by decide +kernel
theorem dR_factorAt_2 : decode cR_factorAt 2 = .ok (.imul, 1) := by decide +kernel
theorem dR_factorAt_3 : decode cR_factorAt 3 = .ok (.istore_n 3, 1) := by decide +kernel
theorem dR_factorAt_4 : decode cR_factorAt 4 = .ok (.aload_n 0, 1) := by decide +kernel
theorem dR_factorAt_5 : decode cR_factorAt 5 = .ok (.getfield 19, 3) := by decide +kernel
theorem dR_factorAt_8 : decode cR_factorAt 8 = .ok (.iload_n 3, 1) := by decide +kernel
theorem dR_factorAt_9 : decode cR_factorAt 9 = .ok (.iconst 2, 1) := by decide +kernel
theorem dR_factorAt_10 : decode cR_factorAt 10 = .ok (.iadd, 1) := by decide +kernel
theorem dR_factorAt_11 : decode cR_factorAt 11 = .ok (.iaload, 1) := by decide +kernel
theorem dR_factorAt_12 : decode cR_factorAt 12 = .ok (.i2l, 1) := by decide +kernel
theorem dR_factorAt_13 : decode cR_factorAt 13 = .ok (.iload_n 2, 1) := by decide +kernel
theorem dR_factorAt_14 : decode cR_factorAt 14 = .ok (.i2l, 1) := by decide +kernel
theorem dR_factorAt_15 : decode cR_factorAt 15 = .ok (.lmul, 1) := by decide +kernel
theorem dR_factorAt_16 : decode cR_factorAt 16 = .ok (.aload_n 0, 1) := by decide +kernel
theorem dR_factorAt_17 : decode cR_factorAt 17 = .ok (.getfield 19, 3) := by decide +kernel
theorem dR_factorAt_20 : decode cR_factorAt 20 = .ok (.iload_n 3, 1) := by decide +kernel
theorem dR_factorAt_21 : decode cR_factorAt 21 = .ok (.iconst 1, 1) := by decide +kernel
theorem dR_factorAt_22 : decode cR_factorAt 22 = .ok (.iadd, 1) := by decide +kernel
theorem dR_factorAt_23 : decode cR_factorAt 23 = .ok (.iaload, 1) := by decide +kernel
theorem dR_factorAt_24 : decode cR_factorAt 24 = .ok (.i2l, 1) := by decide +kernel
theorem dR_factorAt_25 : decode cR_factorAt 25 = .ok (.ladd, 1) := by decide +kernel
theorem dR_factorAt_26 : decode cR_factorAt 26 = .ok (.lstore 4, 2) := by decide +kernel
theorem dR_factorAt_28 : decode cR_factorAt 28 = .ok (.lload 4, 2) := by decide +kernel
theorem dR_factorAt_30 : decode cR_factorAt 30 = .ok (.iload_n 2, 1) := by decide +kernel
theorem dR_factorAt_31 : decode cR_factorAt 31 = .ok (.i2l, 1) := by decide +kernel
theorem dR_factorAt_32 : decode cR_factorAt 32 = .ok (.lmul, 1) := by decide +kernel
theorem dR_factorAt_33 : decode cR_factorAt 33 = .ok (.aload_n 0, 1) := by decide +kernel
theorem dR_factorAt_34 : decode cR_factorAt 34 = .ok (.getfield 19, 3) := by decide +kernel
theorem dR_factorAt_37 : decode cR_factorAt 37 = .ok (.iload_n 3, 1) := by decide +kernel
theorem dR_factorAt_38 : decode cR_factorAt 38 = .ok (.iaload, 1) := by decide +kernel
theorem dR_factorAt_39 : decode cR_factorAt 39 = .ok (.i2l, 1) := by decide +kernel
theorem dR_factorAt_40 : decode cR_factorAt 40 = .ok (.ladd, 1) := by decide +kernel
theorem dR_factorAt_41 : decode cR_factorAt 41 = .ok (.invokestatic 29, 3) := by decide +kernel
theorem dR_factorAt_44 : decode cR_factorAt 44 = .ok (.ireturn, 1) := by decide +kernel
