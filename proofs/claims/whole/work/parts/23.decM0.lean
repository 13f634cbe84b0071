/-! Decoded. -/
theorem dM_init_0 : decode cM_init 0 = .ok (.aload_n 0, 1) := by decide +kernel
theorem dM_init_1 : decode cM_init 1 = .ok (.invokespecial 1, 3) := by decide +kernel
theorem dM_init_4 : decode cM_init 4 = .ok (.aload_n 0, 1) := by decide +kernel
theorem dM_init_5 : decode cM_init 5 = .ok (.bipush 40, 2) := by decide +kernel
theorem dM_init_7 : decode cM_init 7 = .ok (.newarray .int, 2) := by decide +kernel
theorem dM_init_9 : decode cM_init 9 = .ok (.putfield 7, 3) := by decide +kernel
theorem dM_init_12 : decode cM_init 12 = .ok (.aload_n 0, 1) := by decide +kernel
theorem dM_init_13 : decode cM_init 13 = .ok (.bipush 40, 2) := by decide +kernel
theorem dM_init_15 : decode cM_init 15 = .ok (.newarray .int, 2) := by decide +kernel
theorem dM_init_17 : decode cM_init 17 = .ok (.putfield 13, 3) := by decide +kernel
theorem dM_init_20 : decode cM_init 20 = .ok (.aload_n 0, 1) := by decide +kernel
theorem dM_init_21 : decode cM_init 21 = .ok (.bipush 40, 2) := by decide +kernel
theorem dM_init_23 : decode cM_init 23 = .ok (.newarray .int, 2) := by decide +kernel
theorem dM_init_25 : decode cM_init 25 = .ok (.putfield 16, 3) := by decide +kernel
theorem dM_init_28 : decode cM_init 28 = .ok (.aload_n 0, 1) := by decide +kernel
theorem dM_init_29 : decode cM_init 29 = .ok (.bipush 40, 2) := by decide +kernel
theorem dM_init_31 : decode cM_init 31 = .ok (.newarray .int, 2) := by decide +kernel
theorem dM_init_33 : decode cM_init 33 = .ok (.putfield 19, 3) := by decide +kernel
theorem dM_init_36 : decode cM_init 36 = .ok (.aload_n 0, 1) := by decide +kernel
theorem dM_init_37 : decode cM_init 37 = .ok (.sipush 480, 3) := by decide +kernel
theorem dM_init_40 : decode cM_init 40 = .ok (.newarray .int, 2) := by decide +kernel
theorem dM_init_42 : decode cM_init 42 = .ok (.putfield 22, 3) := by decide +kernel
theorem dM_init_45 : decode cM_init 45 = .ok (.aload_n 0, 1) := by decide +kernel
theorem dM_init_46 : decode cM_init 46 = .ok (.sipush 2560, 3) := by decide +kernel
theorem dM_init_49 : decode cM_init 49 = .ok (.newarray .int, 2) := by decide +kernel
theorem dM_init_51 : decode cM_init 51 = .ok (.putfield 25, 3) := by decide +kernel
theorem dM_init_54 : decode cM_init 54 = .ok (.aload_n 0, 1) := by decide +kernel
theorem dM_init_55 : decode cM_init 55 = .ok (.sipush 2560, 3) := by decide +kernel
theorem dM_init_58 : decode cM_init 58 = .ok (.newarray .long, 2) := by decide +kernel
theorem dM_init_60 : decode cM_init 60 = .ok (.putfield 28, 3) := by decide +kernel
theorem dM_init_63 : decode cM_init 63 = .ok (.aload_n 0, 1) := by decide +kernel
theorem dM_init_64 : decode cM_init 64 = .ok (.sipush 400, 3) := by decide +kernel
theorem dM_init_67 : decode cM_init 67 = .ok (.newarray .long, 2) := by decide +kernel
theorem dM_init_69 : decode cM_init 69 = .ok (.putfield 32, 3) := by decide +kernel
theorem dM_init_72 : decode cM_init 72 = .ok (.aload_n 0, 1) := by decide +kernel
theorem dM_init_73 : decode cM_init 73 = .ok (.sipush 1280, 3) := by decide +kernel
theorem dM_init_76 : decode cM_init 76 = .ok (.newarray .long, 2) := by decide +kernel
theorem dM_init_78 : decode cM_init 78 = .ok (.putfield 35, 3) := by decide +kernel
theorem dM_init_81 : decode cM_init 81 = .ok (.aload_n 0, 1) := by decide +kernel
theorem dM_init_82 : decode cM_init 82 = .ok (.bipush 20, 2) := by decide +kernel
theorem dM_init_84 : decode cM_init 84 = .ok (.newarray .int, 2) := by decide +kernel
theorem dM_init_86 : decode cM_init 86 = .ok (.putfield 38, 3) := by decide +kernel
theorem dM_init_89 : decode cM_init 89 = .ok (.aload_n 0, 1) := by decide +kernel
theorem dM_init_90 : decode cM_init 90 = .ok (.bipush 40, 2) := by decide +kernel
theorem dM_init_92 : decode cM_init 92 = .ok (.newarray .boolean, 2) := by decide +kernel
theorem dM_init_94 : decode cM_init 94 = .ok (.putfield 41, 3) := by decide +kernel
theorem dM_init_97 : decode cM_init 97 = .ok (.return_, 1) := by decide +kernel
theorem dM_thrown_0 : decode cM_thrown 0 = .ok (.aload_n 0, 1) := by decide +kernel
theorem dM_thrown_1 : decode cM_thrown 1 = .ok (.getfield 45, 3) := by decide +kernel
theorem dM_thrown_4 : decode cM_thrown 4 = .ok (.ireturn, 1) := by decide +kernel
theorem dM_raise_0 : decode cM_raise 0 = .ok (.aload_n 0, 1) := by decide +kernel
theorem dM_raise_1 : decode cM_raise 1 = .ok (.iload_n 1, 1) := by decide +kernel
theorem dM_raise_2 : decode cM_raise 2 = .ok (.putfield 45, 3) := by decide +kernel
theorem dM_raise_5 : decode cM_raise 5 = .ok (.iconst 0, 1) := by decide +kernel
theorem dM_raise_6 : decode cM_raise 6 = .ok (.ireturn, 1) := by decide +kernel
theorem dM_in_0 : decode cM_in 0 = .ok (.lload_n 0, 1) := by decide +kernel
theorem dM_in_1 : decode cM_in 1 = .ok (.lload_n 2, 1) := by decide +kernel
theorem dM_in_2 : decode cM_in 2 = .ok (.lcmp, 1) := by decide +kernel
theorem dM_in_3 : decode cM_in 3 = .ok (.ifCond .lt 14, 3) := by decide +kernel
theorem dM_in_6 : decode cM_in 6 = .ok (.lload_n 0, 1) := by decide +kernel
theorem dM_in_7 : decode cM_in 7 = .ok (.lload 4, 2) := by decide +kernel
theorem dM_in_9 : decode cM_in 9 = .ok (.lcmp, 1) := by decide +kernel
theorem dM_in_10 : decode cM_in 10 = .ok (.ifCond .gt 7, 3) := by decide +kernel
theorem dM_in_13 : decode cM_in 13 = .ok (.iconst 1, 1) := by decide +kernel
theorem dM_in_14 : decode cM_in 14 = .ok (.goto 4, 3) := by decide +kernel
theorem dM_in_17 : decode cM_in 17 = .ok (.iconst 0, 1) := by decide +kernel
theorem dM_in_18 : decode cM_in 18 = .ok (.ireturn, 1) := by decide +kernel
theorem dM_modulo_0 : decode cM_modulo 0 = .ok (.lload_n 0, 1) := by decide +kernel
theorem dM_modulo_1 : decode cM_modulo 1 = .ok (.ldc2_w 49, 3) := by decide +kernel
theorem dM_modulo_4 : decode cM_modulo 4 = .ok (.lrem, 1) := by decide +kernel
theorem dM_modulo_5 : decode cM_modulo 5 = .ok (.lstore_n 2, 1) := by decide +kernel
theorem dM_modulo_6 : decode cM_modulo 6 = .ok (.lload_n 2, 1) := by decide +kernel
theorem dM_modulo_7 : decode cM_modulo 7 = .ok (.lconst 0, 1) := by decide +kernel
theorem dM_modulo_8 : decode cM_modulo 8 = .ok (.lcmp, 1) := by decide +kernel
theorem dM_modulo_9 : decode cM_modulo 9 = .ok (.ifCond .ge 11, 3) := by decide +kernel
theorem dM_modulo_12 : decode cM_modulo 12 = .ok (.lload_n 2, 1) := by decide +kernel
theorem dM_modulo_13 : decode cM_modulo 13 = .ok (.ldc2_w 49, 3) := by decide +kernel
theorem dM_modulo_16 : decode cM_modulo 16 = .ok (.ladd, 1) := by decide +kernel
theorem dM_modulo_17 : decode cM_modulo 17 = .ok (.goto 4, 3) := by decide +kernel
theorem dM_modulo_20 : decode cM_modulo 20 = .ok (.lload_n 2, 1) := by decide +kernel
theorem dM_modulo_21 : decode cM_modulo 21 = .ok (.lreturn, 1) := by decide +kernel
theorem dM_inverse_0 : decode cM_inverse 0 = .ok (.lconst 1, 1) := by decide +kernel
theorem dM_inverse_1 : decode cM_inverse 1 = .ok (.lstore_n 2, 1) := by decide +kernel
theorem dM_inverse_2 : decode cM_inverse 2 = .ok (.lload_n 0, 1) := by decide +kernel
theorem dM_inverse_3 : decode cM_inverse 3 = .ok (.lstore 4, 2) := by decide +kernel
theorem dM_inverse_5 : decode cM_inverse 5 = .ok (.sipush 32001, 3) := by decide +kernel
theorem dM_inverse_8 : decode cM_inverse 8 = .ok (.istore 6, 2) := by decide +kernel
theorem dM_inverse_10 : decode cM_inverse 10 = .ok (.iload 6, 2) := by decide +kernel
theorem dM_inverse_12 : decode cM_inverse 12 = .ok (.ifCond .le 44, 3) := by decide +kernel
theorem dM_inverse_15 : decode cM_inverse 15 = .ok (.iload 6, 2) := by decide +kernel
theorem dM_inverse_17 : decode cM_inverse 17 = .ok (.iconst 2, 1) := by decide +kernel
theorem dM_inverse_18 : decode cM_inverse 18 = .ok (.irem, 1) := by decide +kernel
theorem dM_inverse_19 : decode cM_inverse 19 = .ok (.iconst 1, 1) := by decide +kernel
theorem dM_inverse_20 : decode cM_inverse 20 = .ok (.if_icmp .ne 14, 3) := by decide +kernel
theorem dM_inverse_23 : decode cM_inverse 23 = .ok (.lload_n 2, 1) := by decide +kernel
theorem dM_inverse_24 : decode cM_inverse 24 = .ok (.lload 4, 2) := by decide +kernel
theorem dM_inverse_26 : decode cM_inverse 26 = .ok (.lmul, 1) := by decide +kernel
theorem dM_inverse_27 : decode cM_inverse 27 = .ok (.ldc2_w 49, 3) := by decide +kernel
theorem dM_inverse_30 : decode cM_inverse 30 = .ok (.lrem, 1) := by decide +kernel
theorem dM_inverse_31 : decode cM_inverse 31 = .ok (.goto 4, 3) := by decide +kernel
theorem dM_inverse_34 : decode cM_inverse 34 = .ok (.lload_n 2, 1) := by decide +kernel
theorem dM_inverse_35 : decode cM_inverse 35 = .ok (.lstore_n 2, 1) := by decide +kernel
theorem dM_inverse_36 : decode cM_inverse 36 = .ok (.lload 4, 2) := by decide +kernel
theorem dM_inverse_38 : decode cM_inverse 38 = .ok (.lload 4, 2) := by decide +kernel
theorem dM_inverse_40 : decode cM_inverse 40 = .ok (.lmul, 1) := by decide +kernel
theorem dM_inverse_41 : decode cM_inverse 41 = .ok (.ldc2_w 49, 3) := by decide +kernel
theorem dM_inverse_44 : decode cM_inverse 44 = .ok (.lrem, 1) := by decide +kernel
theorem dM_inverse_45 : decode cM_inverse 45 = .ok (.lstore 4, 2) := by decide +kernel
theorem dM_inverse_47 : decode cM_inverse 47 = .ok (.iload 6, 2) := by decide +kernel
theorem dM_inverse_49 : decode cM_inverse 49 = .ok (.iconst 2, 1) := by decide +kernel
theorem dM_inverse_50 : decode cM_inverse 50 = .ok (.idiv, 1) := by decide +kernel
theorem dM_inverse_51 : decode cM_inverse 51 = .ok (.istore 6, 2) := by decide +kernel
theorem dM_inverse_53 : decode cM_inverse 53 = .ok (.goto (-43), 3) := by decide +kernel
theorem dM_inverse_56 : decode cM_inverse 56 = .ok (.lload_n 2, 1) := by decide +kernel
theorem dM_inverse_57 : decode cM_inverse 57 = .ok (.lreturn, 1) := by decide +kernel
theorem dM_isThere_0 : decode cM_isThere 0 = .ok (.iload_n 1, 1) := by decide +kernel
theorem dM_isThere_1 : decode cM_isThere 1 = .ok (.i2l, 1) := by decide +kernel
theorem dM_isThere_2 : decode cM_isThere 2 = .ok (.lconst 0, 1) := by decide +kernel
theorem dM_isThere_3 : decode cM_isThere 3 = .ok (.aload_n 0, 1) := by decide +kernel
theorem dM_isThere_4 : decode cM_isThere 4 = .ok (.getfield 51, 3) := by decide +kernel
theorem dM_isThere_7 : decode cM_isThere 7 = .ok (.iconst 1, 1) := by decide +kernel
theorem dM_isThere_8 : decode cM_isThere 8 = .ok (.isub, 1) := by decide +kernel
theorem dM_isThere_9 : decode cM_isThere 9 = .ok (.i2l, 1) := by decide +kernel
theorem dM_isThere_10 : decode cM_isThere 10 = .ok (.invokestatic 54, 3) := by decide +kernel
theorem dM_isThere_13 : decode cM_isThere 13 = .ok (.ireturn, 1) := by decide +kernel
theorem dM_more_0 : decode cM_more 0 = .ok (.aload_n 0, 1) := by decide +kernel
theorem dM_more_1 : decode cM_more 1 = .ok (.getfield 7, 3) := by decide +kernel
theorem dM_more_4 : decode cM_more 4 = .ok (.aload_n 0, 1) := by decide +kernel
theorem dM_more_5 : decode cM_more 5 = .ok (.getfield 51, 3) := by decide +kernel
theorem dM_more_8 : decode cM_more 8 = .ok (.iload_n 1, 1) := by decide +kernel
theorem dM_more_9 : decode cM_more 9 = .ok (.iastore, 1) := by decide +kernel
theorem dM_more_10 : decode cM_more 10 = .ok (.aload_n 0, 1) := by decide +kernel
theorem dM_more_11 : decode cM_more 11 = .ok (.getfield 13, 3) := by decide +kernel
theorem dM_more_14 : decode cM_more 14 = .ok (.aload_n 0, 1) := by decide +kernel
theorem dM_more_15 : decode cM_more 15 = .ok (.getfield 51, 3) := by decide +kernel
theorem dM_more_18 : decode cM_more 18 = .ok (.iload_n 2, 1) := by decide +kernel
theorem dM_more_19 : decode cM_more 19 = .ok (.iastore, 1) := by decide +kernel
theorem dM_more_20 : decode cM_more 20 = .ok (.aload_n 0, 1) := by decide +kernel
theorem dM_more_21 : decode cM_more 21 = .ok (.getfield 16, 3) := by decide +kernel
theorem dM_more_24 : decode cM_more 24 = .ok (.aload_n 0, 1) := by decide +kernel
theorem dM_more_25 : decode cM_more 25 = .ok (.getfield 51, 3) := by decide +kernel
theorem dM_more_28 : decode cM_more 28 = .ok (.iload_n 3, 1) := by decide +kernel
theorem dM_more_29 : decode cM_more 29 = .ok (.iastore, 1) := by decide +kernel
theorem dM_more_30 : decode cM_more 30 = .ok (.aload_n 0, 1) := by decide +kernel
theorem dM_more_31 : decode cM_more 31 = .ok (.dup, 1) := by decide +kernel
theorem dM_more_32 : decode cM_more 32 = .ok (.getfield 51, 3) := by decide +kernel
theorem dM_more_35 : decode cM_more 35 = .ok (.iconst 1, 1) := by decide +kernel
theorem dM_more_36 : decode cM_more 36 = .ok (.iadd, 1) := by decide +kernel
theorem dM_more_37 : decode cM_more 37 = .ok (.putfield 51, 3) := by decide +kernel
theorem dM_more_40 : decode cM_more 40 = .ok (.aload_n 0, 1) := by decide +kernel
theorem dM_more_41 : decode cM_more 41 = .ok (.getfield 51, 3) := by decide +kernel
theorem dM_more_44 : decode cM_more 44 = .ok (.iconst 1, 1) := by decide +kernel
theorem dM_more_45 : decode cM_more 45 = .ok (.isub, 1) := by decide +kernel
theorem dM_more_46 : decode cM_more 46 = .ok (.ireturn, 1) := by decide +kernel
theorem dM_may_0 : decode cM_may 0 = .ok (.aload_n 0, 1) := by decide +kernel
theorem dM_may_1 : decode cM_may 1 = .ok (.aload_n 0, 1) := by decide +kernel
theorem dM_may_2 : decode cM_may 2 = .ok (.iload_n 1, 1) := by decide +kernel
theorem dM_may_3 : decode cM_may 3 = .ok (.invokevirtual 58, 3) := by decide +kernel
theorem dM_may_6 : decode cM_may 6 = .ok (.ifCond .eq 11, 3) := by decide +kernel
theorem dM_may_9 : decode cM_may 9 = .ok (.aload_n 0, 1) := by decide +kernel
theorem dM_may_10 : decode cM_may 10 = .ok (.iload_n 2, 1) := by decide +kernel
theorem dM_may_11 : decode cM_may 11 = .ok (.invokevirtual 58, 3) := by decide +kernel
theorem dM_may_14 : decode cM_may 14 = .ok (.ifCond .ne 7, 3) := by decide +kernel
theorem dM_may_17 : decode cM_may 17 = .ok (.iconst 1, 1) := by decide +kernel
theorem dM_may_18 : decode cM_may 18 = .ok (.goto 17, 3) := by decide +kernel
theorem dM_may_21 : decode cM_may 21 = .ok (.aload_n 0, 1) := by decide +kernel
theorem dM_may_22 : decode cM_may 22 = .ok (.getfield 51, 3) := by decide +kernel
theorem dM_may_25 : decode cM_may 25 = .ok (.bipush 40, 2) := by decide +kernel
theorem dM_may_27 : decode cM_may 27 = .ok (.if_icmp .ne 7, 3) := by decide +kernel
theorem dM_may_30 : decode cM_may 30 = .ok (.iconst 2, 1) := by decide +kernel
theorem dM_may_31 : decode cM_may 31 = .ok (.goto 4, 3) := by decide +kernel
theorem dM_may_34 : decode cM_may 34 = .ok (.iconst 0, 1) := by decide +kernel
theorem dM_may_35 : decode cM_may 35 = .ok (.putfield 45, 3) := by decide +kernel
theorem dM_may_38 : decode cM_may 38 = .ok (.aload_n 0, 1) := by decide +kernel
theorem dM_may_39 : decode cM_may 39 = .ok (.getfield 45, 3) := by decide +kernel
theorem dM_may_42 : decode cM_may 42 = .ok (.ifCond .ne 7, 3) := by decide +kernel
theorem dM_may_45 : decode cM_may 45 = .ok (.iconst 1, 1) := by decide +kernel
theorem dM_may_46 : decode cM_may 46 = .ok (.goto 4, 3) := by decide +kernel
theorem dM_may_49 : decode cM_may 49 = .ok (.iconst 0, 1) := by decide +kernel
theorem dM_may_50 : decode cM_may 50 = .ok (.ireturn, 1) := by decide +kernel
theorem dM_function_0 : decode cM_function 0 = .ok (.aload_n 0, 1) := by decide +kernel
theorem dM_function_1 : decode cM_function 1 = .ok (.aload_n 0, 1) := by decide +kernel
theorem dM_function_2 : decode cM_function 2 = .ok (.getfield 51, 3) := by decide +kernel
theorem dM_function_5 : decode cM_function 5 = .ok (.bipush 40, 2) := by decide +kernel
theorem dM_function_7 : decode cM_function 7 = .ok (.if_icmp .ne 7, 3) := by decide +kernel
theorem dM_function_10 : decode cM_function 10 = .ok (.iconst 1, 1) := by decide +kernel
theorem dM_function_11 : decode cM_function 11 = .ok (.goto 20, 3) := by decide +kernel
theorem dM_function_14 : decode cM_function 14 = .ok (.iload_n 1, 1) := by decide +kernel
theorem dM_function_15 : decode cM_function 15 = .ok (.i2l, 1) := by decide +kernel
theorem dM_function_16 : decode cM_function 16 = .ok (.lconst 1, 1) := by decide +kernel
theorem dM_function_17 : decode cM_function 17 = .ok (.ldc2_w 62, 3) := by decide +kernel
theorem dM_function_20 : decode cM_function 20 = .ok (.invokestatic 54, 3) := by decide +kernel
theorem dM_function_23 : decode cM_function 23 = .ok (.ifCond .eq 7, 3) := by decide +kernel
theorem dM_function_26 : decode cM_function 26 = .ok (.iconst 0, 1) := by decide +kernel
theorem dM_function_27 : decode cM_function 27 = .ok (.goto 4, 3) := by decide +kernel
theorem dM_function_30 : decode cM_function 30 = .ok (.iconst 2, 1) := by decide +kernel
theorem dM_function_31 : decode cM_function 31 = .ok (.putfield 45, 3) := by decide +kernel
theorem dM_function_34 : decode cM_function 34 = .ok (.aload_n 0, 1) := by decide +kernel
theorem dM_function_35 : decode cM_function 35 = .ok (.getfield 45, 3) := by decide +kernel
theorem dM_function_38 : decode cM_function 38 = .ok (.ifCond .le 5, 3) := by decide +kernel
theorem dM_function_41 : decode cM_function 41 = .ok (.iconst 0, 1) := by decide +kernel
theorem dM_function_42 : decode cM_function 42 = .ok (.ireturn, 1) := by decide +kernel
theorem dM_function_43 : decode cM_function 43 = .ok (.aload_n 0, 1) := by decide +kernel
theorem dM_function_44 : decode cM_function 44 = .ok (.getfield 19, 3) := by decide +kernel
theorem dM_function_47 : decode cM_function 47 = .ok (.aload_n 0, 1) := by decide +kernel
theorem dM_function_48 : decode cM_function 48 = .ok (.getfield 51, 3) := by decide +kernel
theorem dM_function_51 : decode cM_function 51 = .ok (.iload_n 1, 1) := by decide +kernel
theorem dM_function_52 : decode cM_function 52 = .ok (.iastore, 1) := by decide +kernel
theorem dM_function_53 : decode cM_function 53 = .ok (.iconst 0, 1) := by decide +kernel
theorem dM_function_54 : decode cM_function 54 = .ok (.istore_n 2, 1) := by decide +kernel
theorem dM_function_55 : decode cM_function 55 = .ok (.iload_n 2, 1) := by decide +kernel
theorem dM_function_56 : decode cM_function 56 = .ok (.bipush 12, 2) := by decide +kernel
theorem dM_function_58 : decode cM_function 58 = .ok (.if_icmp .ge 24, 3) := by decide +kernel
theorem dM_function_61 : decode cM_function 61 = .ok (.aload_n 0, 1) := by decide +kernel
theorem dM_function_62 : decode cM_function 62 = .ok (.getfield 22, 3) := by decide +kernel
theorem dM_function_65 : decode cM_function 65 = .ok (.bipush 12, 2) := by decide +kernel
theorem dM_function_67 : decode cM_function 67 = .ok (.aload_n 0, 1) := by decide +kernel
theorem dM_function_68 : decode cM_function 68 = .ok (.getfield 51, 3) := by decide +kernel
theorem dM_function_71 : decode cM_function 71 = .ok (.imul, 1) := by decide +kernel
theorem dM_function_72 : decode cM_function 72 = .ok (.iload_n 2, 1) := by decide +kernel
theorem dM_function_73 : decode cM_function 73 = .ok (.iadd, 1) := by decide +kernel
theorem dM_function_74 : decode cM_function 74 = .ok (.iconst 0, 1) := by decide +kernel
theorem dM_function_75 : decode cM_function 75 = .ok (.iastore, 1) := by decide +kernel
theorem dM_function_76 : decode cM_function 76 = .ok (.iinc 2 1, 3) := by decide +kernel
theorem dM_function_79 : decode cM_function 79 = .ok (.goto (-24), 3) := by decide +kernel
theorem dM_function_82 : decode cM_function 82 = .ok (.iconst 0, 1) := by decide +kernel
theorem dM_function_83 : decode cM_function 83 = .ok (.istore_n 2, 1) := by decide +kernel
theorem dM_function_84 : decode cM_function 84 = .ok (.iload_n 2, 1) := by decide +kernel
theorem dM_function_85 : decode cM_function 85 = .ok (.bipush 64, 2) := by decide +kernel
theorem dM_function_87 : decode cM_function 87 = .ok (.if_icmp .ge 24, 3) := by decide +kernel
theorem dM_function_90 : decode cM_function 90 = .ok (.aload_n 0, 1) := by decide +kernel
theorem dM_function_91 : decode cM_function 91 = .ok (.getfield 25, 3) := by decide +kernel
theorem dM_function_94 : decode cM_function 94 = .ok (.bipush 64, 2) := by decide +kernel
theorem dM_function_96 : decode cM_function 96 = .ok (.aload_n 0, 1) := by decide +kernel
theorem dM_function_97 : decode cM_function 97 = .ok (.getfield 51, 3) := by decide +kernel
theorem dM_function_100 : decode cM_function 100 = .ok (.imul, 1) := by decide +kernel
theorem dM_function_101 : decode cM_function 101 = .ok (.iload_n 2, 1) := by decide +kernel
theorem dM_function_102 : decode cM_function 102 = .ok (.iadd, 1) := by decide +kernel
theorem dM_function_103 : decode cM_function 103 = .ok (.iconst 0, 1) := by decide +kernel
theorem dM_function_104 : decode cM_function 104 = .ok (.iastore, 1) := by decide +kernel
theorem dM_function_105 : decode cM_function 105 = .ok (.iinc 2 1, 3) := by decide +kernel
theorem dM_function_108 : decode cM_function 108 = .ok (.goto (-24), 3) := by decide +kernel
theorem dM_function_111 : decode cM_function 111 = .ok (.aload_n 0, 1) := by decide +kernel
theorem dM_function_112 : decode cM_function 112 = .ok (.iconst 0, 1) := by decide +kernel
theorem dM_function_113 : decode cM_function 113 = .ok (.iconst (-1), 1) := by decide +kernel
theorem dM_function_114 : decode cM_function 114 = .ok (.iconst (-1), 1) := by decide +kernel
theorem dM_function_115 : decode cM_function 115 = .ok (.invokevirtual 64, 3) := by decide +kernel
theorem dM_function_118 : decode cM_function 118 = .ok (.ireturn, 1) := by decide +kernel
theorem dM_factor_0 : decode cM_factor 0 = .ok (.aload_n 0, 1) := by decide +kernel
theorem dM_factor_1 : decode cM_factor 1 = .ok (.aload_n 0, 1) := by decide +kernel
theorem dM_factor_2 : decode cM_factor 2 = .ok (.iload_n 1, 1) := by decide +kernel
theorem dM_factor_3 : decode cM_factor 3 = .ok (.invokevirtual 58, 3) := by decide +kernel
theorem dM_factor_6 : decode cM_factor 6 = .ok (.ifCond .ne 7, 3) := by decide +kernel
theorem dM_factor_9 : decode cM_factor 9 = .ok (.iconst 1, 1) := by decide +kernel
theorem dM_factor_10 : decode cM_factor 10 = .ok (.goto 45, 3) := by decide +kernel
theorem dM_factor_13 : decode cM_factor 13 = .ok (.aload_n 0, 1) := by decide +kernel
theorem dM_factor_14 : decode cM_factor 14 = .ok (.getfield 7, 3) := by decide +kernel
theorem dM_factor_17 : decode cM_factor 17 = .ok (.iload_n 1, 1) := by decide +kernel
theorem dM_factor_18 : decode cM_factor 18 = .ok (.iaload, 1) := by decide +kernel
theorem dM_factor_19 : decode cM_factor 19 = .ok (.ifCond .ne 31, 3) := by decide +kernel
theorem dM_factor_22 : decode cM_factor 22 = .ok (.iload_n 2, 1) := by decide +kernel
theorem dM_factor_23 : decode cM_factor 23 = .ok (.i2l, 1) := by decide +kernel
theorem dM_factor_24 : decode cM_factor 24 = .ok (.lconst 0, 1) := by decide +kernel
theorem dM_factor_25 : decode cM_factor 25 = .ok (.aload_n 0, 1) := by decide +kernel
theorem dM_factor_26 : decode cM_factor 26 = .ok (.getfield 19, 3) := by decide +kernel
theorem dM_factor_29 : decode cM_factor 29 = .ok (.iload_n 1, 1) := by decide +kernel
theorem dM_factor_30 : decode cM_factor 30 = .ok (.iaload, 1) := by decide +kernel
theorem dM_factor_31 : decode cM_factor 31 = .ok (.i2l, 1) := by decide +kernel
theorem dM_factor_32 : decode cM_factor 32 = .ok (.invokestatic 54, 3) := by decide +kernel
theorem dM_factor_35 : decode cM_factor 35 = .ok (.ifCond .eq 15, 3) := by decide +kernel
theorem dM_factor_38 : decode cM_factor 38 = .ok (.iload_n 3, 1) := by decide +kernel
theorem dM_factor_39 : decode cM_factor 39 = .ok (.i2l, 1) := by decide +kernel
theorem dM_factor_40 : decode cM_factor 40 = .ok (.lconst 0, 1) := by decide +kernel
theorem dM_factor_41 : decode cM_factor 41 = .ok (.ldc2_w 68, 3) := by decide +kernel
theorem dM_factor_44 : decode cM_factor 44 = .ok (.invokestatic 54, 3) := by decide +kernel
theorem dM_factor_47 : decode cM_factor 47 = .ok (.ifCond .ne 7, 3) := by decide +kernel
theorem dM_factor_50 : decode cM_factor 50 = .ok (.iconst 2, 1) := by decide +kernel
theorem dM_factor_51 : decode cM_factor 51 = .ok (.goto 4, 3) := by decide +kernel
theorem dM_factor_54 : decode cM_factor 54 = .ok (.iconst 0, 1) := by decide +kernel
theorem dM_factor_55 : decode cM_factor 55 = .ok (.putfield 45, 3) := by decide +kernel
theorem dM_factor_58 : decode cM_factor 58 = .ok (.aload_n 0, 1) := by decide +kernel
theorem dM_factor_59 : decode cM_factor 59 = .ok (.getfield 45, 3) := by decide +kernel
theorem dM_factor_62 : decode cM_factor 62 = .ok (.ifCond .le 5, 3) := by decide +kernel
theorem dM_factor_65 : decode cM_factor 65 = .ok (.iconst 0, 1) := by decide +kernel
theorem dM_factor_66 : decode cM_factor 66 = .ok (.ireturn, 1) := by decide +kernel
theorem dM_factor_67 : decode cM_factor 67 = .ok (.bipush 12, 2) := by decide +kernel
theorem dM_factor_69 : decode cM_factor 69 = .ok (.iload_n 1, 1) := by decide +kernel
theorem dM_factor_70 : decode cM_factor 70 = .ok (.imul, 1) := by decide +kernel
theorem dM_factor_71 : decode cM_factor 71 = .ok (.iconst 3, 1) := by decide +kernel
theorem dM_factor_72 : decode cM_factor 72 = .ok (.iload_n 2, 1) := by decide +kernel
theorem dM_factor_73 : decode cM_factor 73 = .ok (.imul, 1) := by decide +kernel
theorem dM_factor_74 : decode cM_factor 74 = .ok (.iadd, 1) := by decide +kernel
theorem dM_factor_75 : decode cM_factor 75 = .ok (.iload_n 3, 1) := by decide +kernel
theorem dM_factor_76 : decode cM_factor 76 = .ok (.iadd, 1) := by decide +kernel
theorem dM_factor_77 : decode cM_factor 77 = .ok (.istore 6, 2) := by decide +kernel
theorem dM_factor_79 : decode cM_factor 79 = .ok (.aload_n 0, 1) := by decide +kernel
theorem dM_factor_80 : decode cM_factor 80 = .ok (.getfield 22, 3) := by decide +kernel
theorem dM_factor_83 : decode cM_factor 83 = .ok (.iload 6, 2) := by decide +kernel
theorem dM_factor_85 : decode cM_factor 85 = .ok (.iaload, 1) := by decide +kernel
theorem dM_factor_86 : decode cM_factor 86 = .ok (.i2l, 1) := by decide +kernel
theorem dM_factor_87 : decode cM_factor 87 = .ok (.lload 4, 2) := by decide +kernel
theorem dM_factor_89 : decode cM_factor 89 = .ok (.invokestatic 70, 3) := by decide +kernel
theorem dM_factor_92 : decode cM_factor 92 = .ok (.lcmp, 1) := by decide +kernel
theorem dM_factor_93 : decode cM_factor 93 = .ok (.ifCond .eq 7, 3) := by decide +kernel
theorem dM_factor_96 : decode cM_factor 96 = .ok (.iconst 1, 1) := by decide +kernel
theorem dM_factor_97 : decode cM_factor 97 = .ok (.goto 4, 3) := by decide +kernel
theorem dM_factor_100 : decode cM_factor 100 = .ok (.iconst 0, 1) := by decide +kernel
theorem dM_factor_101 : decode cM_factor 101 = .ok (.istore 7, 2) := by decide +kernel
theorem dM_factor_103 : decode cM_factor 103 = .ok (.aload_n 0, 1) := by decide +kernel
theorem dM_factor_104 : decode cM_factor 104 = .ok (.getfield 22, 3) := by decide +kernel
theorem dM_factor_107 : decode cM_factor 107 = .ok (.iload 6, 2) := by decide +kernel
theorem dM_factor_109 : decode cM_factor 109 = .ok (.lload 4, 2) := by decide +kernel
theorem dM_factor_111 : decode cM_factor 111 = .ok (.invokestatic 70, 3) := by decide +kernel
theorem dM_factor_114 : decode cM_factor 114 = .ok (.l2i, 1) := by decide +kernel
theorem dM_factor_115 : decode cM_factor 115 = .ok (.iastore, 1) := by decide +kernel
theorem dM_factor_116 : decode cM_factor 116 = .ok (.iload 7, 2) := by decide +kernel
theorem dM_factor_118 : decode cM_factor 118 = .ok (.ireturn, 1) := by decide +kernel
theorem dM_start_0 : decode cM_start 0 = .ok (.aload_n 0, 1) := by decide +kernel
theorem dM_start_1 : decode cM_start 1 = .ok (.aload_n 0, 1) := by decide +kernel
theorem dM_start_2 : decode cM_start 2 = .ok (.iload_n 1, 1) := by decide +kernel
theorem dM_start_3 : decode cM_start 3 = .ok (.invokevirtual 58, 3) := by decide +kernel
theorem dM_start_6 : decode cM_start 6 = .ok (.ifCond .eq 15, 3) := by decide +kernel
theorem dM_start_9 : decode cM_start 9 = .ok (.iload_n 2, 1) := by decide +kernel
theorem dM_start_10 : decode cM_start 10 = .ok (.i2l, 1) := by decide +kernel
theorem dM_start_11 : decode cM_start 11 = .ok (.lconst 0, 1) := by decide +kernel
theorem dM_start_12 : decode cM_start 12 = .ok (.ldc2_w 74, 3) := by decide +kernel
theorem dM_start_15 : decode cM_start 15 = .ok (.invokestatic 54, 3) := by decide +kernel
theorem dM_start_18 : decode cM_start 18 = .ok (.ifCond .ne 7, 3) := by decide +kernel
theorem dM_start_21 : decode cM_start 21 = .ok (.iconst 1, 1) := by decide +kernel
theorem dM_start_22 : decode cM_start 22 = .ok (.goto 17, 3) := by decide +kernel
theorem dM_start_25 : decode cM_start 25 = .ok (.aload_n 0, 1) := by decide +kernel
theorem dM_start_26 : decode cM_start 26 = .ok (.getfield 7, 3) := by decide +kernel
theorem dM_start_29 : decode cM_start 29 = .ok (.iload_n 1, 1) := by decide +kernel
theorem dM_start_30 : decode cM_start 30 = .ok (.iaload, 1) := by decide +kernel
theorem dM_start_31 : decode cM_start 31 = .ok (.ifCond .eq 7, 3) := by decide +kernel
theorem dM_start_34 : decode cM_start 34 = .ok (.iconst 2, 1) := by decide +kernel
theorem dM_start_35 : decode cM_start 35 = .ok (.goto 4, 3) := by decide +kernel
theorem dM_start_38 : decode cM_start 38 = .ok (.iconst 0, 1) := by decide +kernel
theorem dM_start_39 : decode cM_start 39 = .ok (.putfield 45, 3) := by decide +kernel
theorem dM_start_42 : decode cM_start 42 = .ok (.aload_n 0, 1) := by decide +kernel
theorem dM_start_43 : decode cM_start 43 = .ok (.getfield 45, 3) := by decide +kernel
theorem dM_start_46 : decode cM_start 46 = .ok (.ifCond .le 5, 3) := by decide +kernel
theorem dM_start_49 : decode cM_start 49 = .ok (.iconst 0, 1) := by decide +kernel
theorem dM_start_50 : decode cM_start 50 = .ok (.ireturn, 1) := by decide +kernel
theorem dM_start_51 : decode cM_start 51 = .ok (.bipush 64, 2) := by decide +kernel
theorem dM_start_53 : decode cM_start 53 = .ok (.iload_n 1, 1) := by decide +kernel
theorem dM_start_54 : decode cM_start 54 = .ok (.imul, 1) := by decide +kernel
theorem dM_start_55 : decode cM_start 55 = .ok (.iload_n 2, 1) := by decide +kernel
theorem dM_start_56 : decode cM_start 56 = .ok (.iadd, 1) := by decide +kernel
theorem dM_start_57 : decode cM_start 57 = .ok (.istore 5, 2) := by decide +kernel
theorem dM_start_59 : decode cM_start 59 = .ok (.aload_n 0, 1) := by decide +kernel
theorem dM_start_60 : decode cM_start 60 = .ok (.getfield 25, 3) := by decide +kernel
theorem dM_start_63 : decode cM_start 63 = .ok (.iload 5, 2) := by decide +kernel
theorem dM_start_65 : decode cM_start 65 = .ok (.iaload, 1) := by decide +kernel
theorem dM_start_66 : decode cM_start 66 = .ok (.i2l, 1) := by decide +kernel
theorem dM_start_67 : decode cM_start 67 = .ok (.lload_n 3, 1) := by decide +kernel
theorem dM_start_68 : decode cM_start 68 = .ok (.invokestatic 70, 3) := by decide +kernel
theorem dM_start_71 : decode cM_start 71 = .ok (.lcmp, 1) := by decide +kernel
theorem dM_start_72 : decode cM_start 72 = .ok (.ifCond .eq 7, 3) := by decide +kernel
theorem dM_start_75 : decode cM_start 75 = .ok (.iconst 1, 1) := by decide +kernel
theorem dM_start_76 : decode cM_start 76 = .ok (.goto 4, 3) := by decide +kernel
theorem dM_start_79 : decode cM_start 79 = .ok (.iconst 0, 1) := by decide +kernel
theorem dM_start_80 : decode cM_start 80 = .ok (.istore 6, 2) := by decide +kernel
theorem dM_start_82 : decode cM_start 82 = .ok (.aload_n 0, 1) := by decide +kernel
theorem dM_start_83 : decode cM_start 83 = .ok (.getfield 25, 3) := by decide +kernel
theorem dM_start_86 : decode cM_start 86 = .ok (.iload 5, 2) := by decide +kernel
theorem dM_start_88 : decode cM_start 88 = .ok (.lload_n 3, 1) := by decide +kernel
theorem dM_start_89 : decode cM_start 89 = .ok (.invokestatic 70, 3) := by decide +kernel
theorem dM_start_92 : decode cM_start 92 = .ok (.l2i, 1) := by decide +kernel
theorem dM_start_93 : decode cM_start 93 = .ok (.iastore, 1) := by decide +kernel
theorem dM_start_94 : decode cM_start 94 = .ok (.iload 6, 2) := by decide +kernel
theorem dM_start_96 : decode cM_start 96 = .ok (.ireturn, 1) := by decide +kernel
theorem dM_add_0 : decode cM_add 0 = .ok (.aload_n 0, 1) := by decide +kernel
theorem dM_add_1 : decode cM_add 1 = .ok (.iload_n 1, 1) := by decide +kernel
theorem dM_add_2 : decode cM_add 2 = .ok (.iload_n 2, 1) := by decide +kernel
theorem dM_add_3 : decode cM_add 3 = .ok (.invokevirtual 76, 3) := by decide +kernel
theorem dM_add_6 : decode cM_add 6 = .ok (.ifCond .eq 13, 3) := by decide +kernel
theorem dM_add_9 : decode cM_add 9 = .ok (.aload_n 0, 1) := by decide +kernel
theorem dM_add_10 : decode cM_add 10 = .ok (.iconst 1, 1) := by decide +kernel
theorem dM_add_11 : decode cM_add 11 = .ok (.iload_n 1, 1) := by decide +kernel
theorem dM_add_12 : decode cM_add 12 = .ok (.iload_n 2, 1) := by decide +kernel
theorem dM_add_13 : decode cM_add 13 = .ok (.invokevirtual 64, 3) := by decide +kernel
theorem dM_add_16 : decode cM_add 16 = .ok (.goto 4, 3) := by decide +kernel
theorem dM_add_19 : decode cM_add 19 = .ok (.iconst 0, 1) := by decide +kernel
theorem dM_add_20 : decode cM_add 20 = .ok (.ireturn, 1) := by decide +kernel
theorem dM_times_0 : decode cM_times 0 = .ok (.aload_n 0, 1) := by decide +kernel
theorem dM_times_1 : decode cM_times 1 = .ok (.iload_n 1, 1) := by decide +kernel
theorem dM_times_2 : decode cM_times 2 = .ok (.iload_n 2, 1) := by decide +kernel
theorem dM_times_3 : decode cM_times 3 = .ok (.invokevirtual 76, 3) := by decide +kernel
theorem dM_times_6 : decode cM_times 6 = .ok (.ifCond .eq 13, 3) := by decide +kernel
theorem dM_times_9 : decode cM_times 9 = .ok (.aload_n 0, 1) := by decide +kernel
theorem dM_times_10 : decode cM_times 10 = .ok (.iconst 2, 1) := by decide +kernel
theorem dM_times_11 : decode cM_times 11 = .ok (.iload_n 1, 1) := by decide +kernel
theorem dM_times_12 : decode cM_times 12 = .ok (.iload_n 2, 1) := by decide +kernel
theorem dM_times_13 : decode cM_times 13 = .ok (.invokevirtual 64, 3) := by decide +kernel
theorem dM_times_16 : decode cM_times 16 = .ok (.goto 4, 3) := by decide +kernel
theorem dM_times_19 : decode cM_times 19 = .ok (.iconst 0, 1) := by decide +kernel
theorem dM_times_20 : decode cM_times 20 = .ok (.ireturn, 1) := by decide +kernel
theorem dM_convolve_0 : decode cM_convolve 0 = .ok (.aload_n 0, 1) := by decide +kernel
theorem dM_convolve_1 : decode cM_convolve 1 = .ok (.iload_n 1, 1) := by decide +kernel
theorem dM_convolve_2 : decode cM_convolve 2 = .ok (.iload_n 2, 1) := by decide +kernel
theorem dM_convolve_3 : decode cM_convolve 3 = .ok (.invokevirtual 76, 3) := by decide +kernel
theorem dM_convolve_6 : decode cM_convolve 6 = .ok (.ifCond .eq 13, 3) := by decide +kernel
theorem dM_convolve_9 : decode cM_convolve 9 = .ok (.aload_n 0, 1) := by decide +kernel
theorem dM_convolve_10 : decode cM_convolve 10 = .ok (.iconst 3, 1) := by decide +kernel
theorem dM_convolve_11 : decode cM_convolve 11 = .ok (.iload_n 1, 1) := by decide +kernel
theorem dM_convolve_12 : decode cM_convolve 12 = .ok (.iload_n 2, 1) := by decide +kernel
theorem dM_convolve_13 : decode cM_convolve 13 = .ok (.invokevirtual 64, 3) := by decide +kernel
theorem dM_convolve_16 : decode cM_convolve 16 = .ok (.goto 4, 3) := by decide +kernel
theorem dM_convolve_19 : decode cM_convolve 19 = .ok (.iconst 0, 1) := by decide +kernel
theorem dM_convolve_20 : decode cM_convolve 20 = .ok (.ireturn, 1) := by decide +kernel
theorem dM_weave_0 : decode cM_weave 0 = .ok (.aload_n 0, 1) := by decide +kernel
theorem dM_weave_1 : decode cM_weave 1 = .ok (.iload_n 1, 1) := by decide +kernel
theorem dM_weave_2 : decode cM_weave 2 = .ok (.iload_n 2, 1) := by decide +kernel
theorem dM_weave_3 : decode cM_weave 3 = .ok (.invokevirtual 76, 3) := by decide +kernel
theorem dM_weave_6 : decode cM_weave 6 = .ok (.ifCond .eq 13, 3) := by decide +kernel
theorem dM_weave_9 : decode cM_weave 9 = .ok (.aload_n 0, 1) := by decide +kernel
theorem dM_weave_10 : decode cM_weave 10 = .ok (.iconst 4, 1) := by decide +kernel
theorem dM_weave_11 : decode cM_weave 11 = .ok (.iload_n 1, 1) := by decide +kernel
theorem dM_weave_12 : decode cM_weave 12 = .ok (.iload_n 2, 1) := by decide +kernel
theorem dM_weave_13 : decode cM_weave 13 = .ok (.invokevirtual 64, 3) := by decide +kernel
theorem dM_weave_16 : decode cM_weave 16 = .ok (.goto 4, 3) := by decide +kernel
theorem dM_weave_19 : decode cM_weave 19 = .ok (.iconst 0, 1) := by decide +kernel
theorem dM_weave_20 : decode cM_weave 20 = .ok (.ireturn, 1) := by decide +kernel
theorem dM_shift_0 : decode cM_shift 0 = .ok (.aload_n 0, 1) := by decide +kernel
theorem dM_shift_1 : decode cM_shift 1 = .ok (.iload_n 1, 1) := by decide +kernel
theorem dM_shift_2 : decode cM_shift 2 = .ok (.iload_n 1, 1) := by decide +kernel
theorem dM_shift_3 : decode cM_shift 3 = .ok (.invokevirtual 76, 3) := by decide +kernel
theorem dM_shift_6 : decode cM_shift 6 = .ok (.ifCond .ne 5, 3) := by decide +kernel
theorem dM_shift_9 : decode cM_shift 9 = .ok (.iconst 0, 1) := by decide +kernel
theorem dM_shift_10 : decode cM_shift 10 = .ok (.ireturn, 1) := by decide +kernel
theorem dM_shift_11 : decode cM_shift 11 = .ok (.iload_n 2, 1) := by decide +kernel
theorem dM_shift_12 : decode cM_shift 12 = .ok (.i2l, 1) := by decide +kernel
theorem dM_shift_13 : decode cM_shift 13 = .ok (.lconst 0, 1) := by decide +kernel
theorem dM_shift_14 : decode cM_shift 14 = .ok (.ldc2_w 80, 3) := by decide +kernel
theorem dM_shift_17 : decode cM_shift 17 = .ok (.invokestatic 54, 3) := by decide +kernel
theorem dM_shift_20 : decode cM_shift 20 = .ok (.ifCond .eq 13, 3) := by decide +kernel
theorem dM_shift_23 : decode cM_shift 23 = .ok (.aload_n 0, 1) := by decide +kernel
theorem dM_shift_24 : decode cM_shift 24 = .ok (.iconst 5, 1) := by decide +kernel
theorem dM_shift_25 : decode cM_shift 25 = .ok (.iload_n 1, 1) := by decide +kernel
theorem dM_shift_26 : decode cM_shift 26 = .ok (.iload_n 2, 1) := by decide +kernel
theorem dM_shift_27 : decode cM_shift 27 = .ok (.invokevirtual 64, 3) := by decide +kernel
theorem dM_shift_30 : decode cM_shift 30 = .ok (.goto 8, 3) := by decide +kernel
theorem dM_shift_33 : decode cM_shift 33 = .ok (.aload_n 0, 1) := by decide +kernel
theorem dM_shift_34 : decode cM_shift 34 = .ok (.iconst 3, 1) := by decide +kernel
theorem dM_shift_35 : decode cM_shift 35 = .ok (.invokevirtual 82, 3) := by decide +kernel
theorem dM_shift_38 : decode cM_shift 38 = .ok (.ireturn, 1) := by decide +kernel
theorem dM_sums_0 : decode cM_sums 0 = .ok (.aload_n 0, 1) := by decide +kernel
theorem dM_sums_1 : decode cM_sums 1 = .ok (.iload_n 1, 1) := by decide +kernel
theorem dM_sums_2 : decode cM_sums 2 = .ok (.iload_n 1, 1) := by decide +kernel
