/-! Decoded. -/
theorem dX_init_0 : decode cX_init 0 = .ok (.aload_n 0, 1) := by decide +kernel
theorem dX_init_1 : decode cX_init 1 = .ok (.invokespecial 3, 3) := by decide +kernel
theorem dX_init_4 : decode cX_init 4 = .ok (.aload_n 0, 1) := by decide +kernel
theorem dX_init_5 : decode cX_init 5 = .ok (.bipush 40, 2) := by decide +kernel
theorem dX_init_7 : decode cX_init 7 = .ok (.anewarray 9, 3) := by decide +kernel
theorem dX_init_10 : decode cX_init 10 = .ok (.putfield 11, 3) := by decide +kernel
theorem dX_init_13 : decode cX_init 13 = .ok (.aload_n 0, 1) := by decide +kernel
theorem dX_init_14 : decode cX_init 14 = .ok (.new 15, 3) := by decide +kernel
theorem dX_init_17 : decode cX_init 17 = .ok (.dup, 1) := by decide +kernel
theorem dX_init_18 : decode cX_init 18 = .ok (.invokespecial 17, 3) := by decide +kernel
theorem dX_init_21 : decode cX_init 21 = .ok (.putfield 18, 3) := by decide +kernel
theorem dX_init_24 : decode cX_init 24 = .ok (.aload_n 0, 1) := by decide +kernel
theorem dX_init_25 : decode cX_init 25 = .ok (.new 15, 3) := by decide +kernel
theorem dX_init_28 : decode cX_init 28 = .ok (.dup, 1) := by decide +kernel
theorem dX_init_29 : decode cX_init 29 = .ok (.invokespecial 17, 3) := by decide +kernel
theorem dX_init_32 : decode cX_init 32 = .ok (.putfield 22, 3) := by decide +kernel
theorem dX_init_35 : decode cX_init 35 = .ok (.return_, 1) := by decide +kernel
theorem dX_function_0 : decode cX_function 0 = .ok (.aload_n 0, 1) := by decide +kernel
theorem dX_function_1 : decode cX_function 1 = .ok (.invokevirtual 25, 3) := by decide +kernel
theorem dX_function_4 : decode cX_function 4 = .ok (.istore_n 2, 1) := by decide +kernel
theorem dX_function_5 : decode cX_function 5 = .ok (.iload_n 1, 1) := by decide +kernel
theorem dX_function_6 : decode cX_function 6 = .ok (.iconst 1, 1) := by decide +kernel
theorem dX_function_7 : decode cX_function 7 = .ok (.if_icmp .lt 8, 3) := by decide +kernel
theorem dX_function_10 : decode cX_function 10 = .ok (.iload_n 1, 1) := by decide +kernel
theorem dX_function_11 : decode cX_function 11 = .ok (.iconst 3, 1) := by decide +kernel
theorem dX_function_12 : decode cX_function 12 = .ok (.if_icmp .le 13, 3) := by decide +kernel
theorem dX_function_15 : decode cX_function 15 = .ok (.new 29, 3) := by decide +kernel
theorem dX_function_18 : decode cX_function 18 = .ok (.dup, 1) := by decide +kernel
theorem dX_function_19 : decode cX_function 19 = .ok (.ldc 31, 2) := by decide +kernel
theorem dX_function_21 : decode cX_function 21 = .ok (.invokespecial 33, 3) := by decide +kernel
theorem dX_function_24 : decode cX_function 24 = .ok (.athrow, 1) := by decide +kernel
theorem dX_function_25 : decode cX_function 25 = .ok (.aload_n 0, 1) := by decide +kernel
theorem dX_function_26 : decode cX_function 26 = .ok (.iload_n 2, 1) := by decide +kernel
theorem dX_function_27 : decode cX_function 27 = .ok (.new 36, 3) := by decide +kernel
theorem dX_function_30 : decode cX_function 30 = .ok (.dup, 1) := by decide +kernel
theorem dX_function_31 : decode cX_function 31 = .ok (.iload_n 2, 1) := by decide +kernel
theorem dX_function_32 : decode cX_function 32 = .ok (.iload_n 1, 1) := by decide +kernel
theorem dX_function_33 : decode cX_function 33 = .ok (.invokespecial 38, 3) := by decide +kernel
theorem dX_function_36 : decode cX_function 36 = .ok (.invokevirtual 41, 3) := by decide +kernel
theorem dX_function_39 : decode cX_function 39 = .ok (.ireturn, 1) := by decide +kernel
theorem dX_factor_0 : decode cX_factor 0 = .ok (.aload_n 0, 1) := by decide +kernel
theorem dX_factor_1 : decode cX_factor 1 = .ok (.iload_n 1, 1) := by decide +kernel
theorem dX_factor_2 : decode cX_factor 2 = .ok (.invokevirtual 45, 3) := by decide +kernel
theorem dX_factor_5 : decode cX_factor 5 = .ok (.invokestatic 49, 3) := by decide +kernel
theorem dX_factor_8 : decode cX_factor 8 = .ok (.astore 6, 2) := by decide +kernel
theorem dX_factor_10 : decode cX_factor 10 = .ok (.iload_n 2, 1) := by decide +kernel
theorem dX_factor_11 : decode cX_factor 11 = .ok (.ifCond .lt 12, 3) := by decide +kernel
theorem dX_factor_14 : decode cX_factor 14 = .ok (.iload_n 2, 1) := by decide +kernel
theorem dX_factor_15 : decode cX_factor 15 = .ok (.aload 6, 2) := by decide +kernel
theorem dX_factor_17 : decode cX_factor 17 = .ok (.getfield 53, 3) := by decide +kernel
theorem dX_factor_20 : decode cX_factor 20 = .ok (.if_icmp .le 13, 3) := by decide +kernel
theorem dX_factor_23 : decode cX_factor 23 = .ok (.new 29, 3) := by decide +kernel
theorem dX_factor_26 : decode cX_factor 26 = .ok (.dup, 1) := by decide +kernel
theorem dX_factor_27 : decode cX_factor 27 = .ok (.ldc 57, 2) := by decide +kernel
theorem dX_factor_29 : decode cX_factor 29 = .ok (.invokespecial 33, 3) := by decide +kernel
theorem dX_factor_32 : decode cX_factor 32 = .ok (.athrow, 1) := by decide +kernel
theorem dX_factor_33 : decode cX_factor 33 = .ok (.iload_n 3, 1) := by decide +kernel
theorem dX_factor_34 : decode cX_factor 34 = .ok (.ifCond .lt 8, 3) := by decide +kernel
theorem dX_factor_37 : decode cX_factor 37 = .ok (.iload_n 3, 1) := by decide +kernel
theorem dX_factor_38 : decode cX_factor 38 = .ok (.iconst 3, 1) := by decide +kernel
theorem dX_factor_39 : decode cX_factor 39 = .ok (.if_icmp .lt 13, 3) := by decide +kernel
theorem dX_factor_42 : decode cX_factor 42 = .ok (.new 29, 3) := by decide +kernel
theorem dX_factor_45 : decode cX_factor 45 = .ok (.dup, 1) := by decide +kernel
theorem dX_factor_46 : decode cX_factor 46 = .ok (.ldc 59, 2) := by decide +kernel
theorem dX_factor_48 : decode cX_factor 48 = .ok (.invokespecial 33, 3) := by decide +kernel
theorem dX_factor_51 : decode cX_factor 51 = .ok (.athrow, 1) := by decide +kernel
theorem dX_factor_52 : decode cX_factor 52 = .ok (.aload_n 0, 1) := by decide +kernel
theorem dX_factor_53 : decode cX_factor 53 = .ok (.iload_n 1, 1) := by decide +kernel
theorem dX_factor_54 : decode cX_factor 54 = .ok (.aload 6, 2) := by decide +kernel
theorem dX_factor_56 : decode cX_factor 56 = .ok (.getfield 61, 3) := by decide +kernel
theorem dX_factor_59 : decode cX_factor 59 = .ok (.iload_n 2, 1) := by decide +kernel
theorem dX_factor_60 : decode cX_factor 60 = .ok (.iconst 3, 1) := by decide +kernel
theorem dX_factor_61 : decode cX_factor 61 = .ok (.imul, 1) := by decide +kernel
theorem dX_factor_62 : decode cX_factor 62 = .ok (.iload_n 3, 1) := by decide +kernel
theorem dX_factor_63 : decode cX_factor 63 = .ok (.iadd, 1) := by decide +kernel
theorem dX_factor_64 : decode cX_factor 64 = .ok (.lload 4, 2) := by decide +kernel
theorem dX_factor_66 : decode cX_factor 66 = .ok (.invokestatic 65, 3) := by decide +kernel
theorem dX_factor_69 : decode cX_factor 69 = .ok (.invokevirtual 69, 3) := by decide +kernel
theorem dX_factor_72 : decode cX_factor 72 = .ok (.ireturn, 1) := by decide +kernel
theorem dX_start_0 : decode cX_start 0 = .ok (.aload_n 0, 1) := by decide +kernel
theorem dX_start_1 : decode cX_start 1 = .ok (.iload_n 1, 1) := by decide +kernel
theorem dX_start_2 : decode cX_start 2 = .ok (.invokevirtual 45, 3) := by decide +kernel
theorem dX_start_5 : decode cX_start 5 = .ok (.astore 5, 2) := by decide +kernel
theorem dX_start_7 : decode cX_start 7 = .ok (.iload_n 2, 1) := by decide +kernel
theorem dX_start_8 : decode cX_start 8 = .ok (.invokestatic 73, 3) := by decide +kernel
theorem dX_start_11 : decode cX_start 11 = .ok (.aload_n 0, 1) := by decide +kernel
theorem dX_start_12 : decode cX_start 12 = .ok (.iload_n 1, 1) := by decide +kernel
theorem dX_start_13 : decode cX_start 13 = .ok (.aload 5, 2) := by decide +kernel
theorem dX_start_15 : decode cX_start 15 = .ok (.invokestatic 49, 3) := by decide +kernel
theorem dX_start_18 : decode cX_start 18 = .ok (.getfield 77, 3) := by decide +kernel
theorem dX_start_21 : decode cX_start 21 = .ok (.iload_n 2, 1) := by decide +kernel
theorem dX_start_22 : decode cX_start 22 = .ok (.lload_n 3, 1) := by decide +kernel
theorem dX_start_23 : decode cX_start 23 = .ok (.invokestatic 65, 3) := by decide +kernel
theorem dX_start_26 : decode cX_start 26 = .ok (.invokevirtual 69, 3) := by decide +kernel
theorem dX_start_29 : decode cX_start 29 = .ok (.ireturn, 1) := by decide +kernel
theorem dX_add_0 : decode cX_add 0 = .ok (.aload_n 0, 1) := by decide +kernel
theorem dX_add_1 : decode cX_add 1 = .ok (.getstatic 80, 3) := by decide +kernel
theorem dX_add_4 : decode cX_add 4 = .ok (.iload_n 1, 1) := by decide +kernel
theorem dX_add_5 : decode cX_add 5 = .ok (.iload_n 2, 1) := by decide +kernel
theorem dX_add_6 : decode cX_add 6 = .ok (.invokevirtual 86, 3) := by decide +kernel
theorem dX_add_9 : decode cX_add 9 = .ok (.ireturn, 1) := by decide +kernel
theorem dX_times_0 : decode cX_times 0 = .ok (.aload_n 0, 1) := by decide +kernel
theorem dX_times_1 : decode cX_times 1 = .ok (.getstatic 90, 3) := by decide +kernel
theorem dX_times_4 : decode cX_times 4 = .ok (.iload_n 1, 1) := by decide +kernel
theorem dX_times_5 : decode cX_times 5 = .ok (.iload_n 2, 1) := by decide +kernel
theorem dX_times_6 : decode cX_times 6 = .ok (.invokevirtual 86, 3) := by decide +kernel
theorem dX_times_9 : decode cX_times 9 = .ok (.ireturn, 1) := by decide +kernel
theorem dX_convolve_0 : decode cX_convolve 0 = .ok (.aload_n 0, 1) := by decide +kernel
theorem dX_convolve_1 : decode cX_convolve 1 = .ok (.getstatic 93, 3) := by decide +kernel
theorem dX_convolve_4 : decode cX_convolve 4 = .ok (.iload_n 1, 1) := by decide +kernel
theorem dX_convolve_5 : decode cX_convolve 5 = .ok (.iload_n 2, 1) := by decide +kernel
theorem dX_convolve_6 : decode cX_convolve 6 = .ok (.invokevirtual 86, 3) := by decide +kernel
theorem dX_convolve_9 : decode cX_convolve 9 = .ok (.ireturn, 1) := by decide +kernel
theorem dX_weave_0 : decode cX_weave 0 = .ok (.aload_n 0, 1) := by decide +kernel
theorem dX_weave_1 : decode cX_weave 1 = .ok (.getstatic 96, 3) := by decide +kernel
theorem dX_weave_4 : decode cX_weave 4 = .ok (.iload_n 1, 1) := by decide +kernel
theorem dX_weave_5 : decode cX_weave 5 = .ok (.iload_n 2, 1) := by decide +kernel
theorem dX_weave_6 : decode cX_weave 6 = .ok (.invokevirtual 86, 3) := by decide +kernel
theorem dX_weave_9 : decode cX_weave 9 = .ok (.ireturn, 1) := by decide +kernel
theorem dX_shift_0 : decode cX_shift 0 = .ok (.aload_n 0, 1) := by decide +kernel
theorem dX_shift_1 : decode cX_shift 1 = .ok (.iload_n 1, 1) := by decide +kernel
theorem dX_shift_2 : decode cX_shift 2 = .ok (.invokevirtual 45, 3) := by decide +kernel
theorem dX_shift_5 : decode cX_shift 5 = .ok (.astore_n 3, 1) := by decide +kernel
theorem dX_shift_6 : decode cX_shift 6 = .ok (.aload_n 0, 1) := by decide +kernel
theorem dX_shift_7 : decode cX_shift 7 = .ok (.invokevirtual 25, 3) := by decide +kernel
theorem dX_shift_10 : decode cX_shift 10 = .ok (.istore 4, 2) := by decide +kernel
theorem dX_shift_12 : decode cX_shift 12 = .ok (.iload_n 2, 1) := by decide +kernel
theorem dX_shift_13 : decode cX_shift 13 = .ok (.ifCond .lt 9, 3) := by decide +kernel
theorem dX_shift_16 : decode cX_shift 16 = .ok (.iload_n 2, 1) := by decide +kernel
theorem dX_shift_17 : decode cX_shift 17 = .ok (.bipush 8, 2) := by decide +kernel
theorem dX_shift_19 : decode cX_shift 19 = .ok (.if_icmp .le 13, 3) := by decide +kernel
theorem dX_shift_22 : decode cX_shift 22 = .ok (.new 29, 3) := by decide +kernel
theorem dX_shift_25 : decode cX_shift 25 = .ok (.dup, 1) := by decide +kernel
theorem dX_shift_26 : decode cX_shift 26 = .ok (.ldc 99, 2) := by decide +kernel
theorem dX_shift_28 : decode cX_shift 28 = .ok (.invokespecial 33, 3) := by decide +kernel
theorem dX_shift_31 : decode cX_shift 31 = .ok (.athrow, 1) := by decide +kernel
theorem dX_shift_32 : decode cX_shift 32 = .ok (.aload_n 0, 1) := by decide +kernel
theorem dX_shift_33 : decode cX_shift 33 = .ok (.iload 4, 2) := by decide +kernel
theorem dX_shift_35 : decode cX_shift 35 = .ok (.new 101, 3) := by decide +kernel
theorem dX_shift_38 : decode cX_shift 38 = .ok (.dup, 1) := by decide +kernel
theorem dX_shift_39 : decode cX_shift 39 = .ok (.iload 4, 2) := by decide +kernel
theorem dX_shift_41 : decode cX_shift 41 = .ok (.getstatic 103, 3) := by decide +kernel
theorem dX_shift_44 : decode cX_shift 44 = .ok (.aload_n 3, 1) := by decide +kernel
theorem dX_shift_45 : decode cX_shift 45 = .ok (.aload_n 3, 1) := by decide +kernel
theorem dX_shift_46 : decode cX_shift 46 = .ok (.iload_n 2, 1) := by decide +kernel
theorem dX_shift_47 : decode cX_shift 47 = .ok (.invokespecial 106, 3) := by decide +kernel
theorem dX_shift_50 : decode cX_shift 50 = .ok (.invokevirtual 41, 3) := by decide +kernel
theorem dX_shift_53 : decode cX_shift 53 = .ok (.ireturn, 1) := by decide +kernel
theorem dX_sums_0 : decode cX_sums 0 = .ok (.aload_n 0, 1) := by decide +kernel
theorem dX_sums_1 : decode cX_sums 1 = .ok (.getstatic 109, 3) := by decide +kernel
theorem dX_sums_4 : decode cX_sums 4 = .ok (.iload_n 1, 1) := by decide +kernel
theorem dX_sums_5 : decode cX_sums 5 = .ok (.iload_n 1, 1) := by decide +kernel
theorem dX_sums_6 : decode cX_sums 6 = .ok (.invokevirtual 86, 3) := by decide +kernel
theorem dX_sums_9 : decode cX_sums 9 = .ok (.ireturn, 1) := by decide +kernel
theorem dX_derive_0 : decode cX_derive 0 = .ok (.aload_n 0, 1) := by decide +kernel
theorem dX_derive_1 : decode cX_derive 1 = .ok (.getstatic 112, 3) := by decide +kernel
theorem dX_derive_4 : decode cX_derive 4 = .ok (.iload_n 1, 1) := by decide +kernel
theorem dX_derive_5 : decode cX_derive 5 = .ok (.iload_n 1, 1) := by decide +kernel
theorem dX_derive_6 : decode cX_derive 6 = .ok (.invokevirtual 86, 3) := by decide +kernel
theorem dX_derive_9 : decode cX_derive 9 = .ok (.ireturn, 1) := by decide +kernel
theorem dX_value_0 : decode cX_value 0 = .ok (.aload_n 0, 1) := by decide +kernel
theorem dX_value_1 : decode cX_value 1 = .ok (.iload_n 1, 1) := by decide +kernel
theorem dX_value_2 : decode cX_value 2 = .ok (.invokevirtual 45, 3) := by decide +kernel
theorem dX_value_5 : decode cX_value 5 = .ok (.astore_n 3, 1) := by decide +kernel
theorem dX_value_6 : decode cX_value 6 = .ok (.iload_n 2, 1) := by decide +kernel
theorem dX_value_7 : decode cX_value 7 = .ok (.invokestatic 73, 3) := by decide +kernel
theorem dX_value_10 : decode cX_value 10 = .ok (.aload_n 0, 1) := by decide +kernel
theorem dX_value_11 : decode cX_value 11 = .ok (.aload_n 3, 1) := by decide +kernel
theorem dX_value_12 : decode cX_value 12 = .ok (.invokevirtual 115, 3) := by decide +kernel
theorem dX_value_15 : decode cX_value 15 = .ok (.iload_n 2, 1) := by decide +kernel
theorem dX_value_16 : decode cX_value 16 = .ok (.iaload, 1) := by decide +kernel
theorem dX_value_17 : decode cX_value 17 = .ok (.ireturn, 1) := by decide +kernel
theorem dX_singular_0 : decode cX_singular 0 = .ok (.aload_n 0, 1) := by decide +kernel
theorem dX_singular_1 : decode cX_singular 1 = .ok (.iload_n 1, 1) := by decide +kernel
theorem dX_singular_2 : decode cX_singular 2 = .ok (.invokevirtual 45, 3) := by decide +kernel
theorem dX_singular_5 : decode cX_singular 5 = .ok (.invokestatic 49, 3) := by decide +kernel
theorem dX_singular_8 : decode cX_singular 8 = .ok (.invokevirtual 119, 3) := by decide +kernel
theorem dX_singular_11 : decode cX_singular 11 = .ok (.ireturn, 1) := by decide +kernel
theorem dX_guess_0 : decode cX_guess 0 = .ok (.aload_n 0, 1) := by decide +kernel
theorem dX_guess_1 : decode cX_guess 1 = .ok (.iload_n 1, 1) := by decide +kernel
theorem dX_guess_2 : decode cX_guess 2 = .ok (.invokevirtual 45, 3) := by decide +kernel
theorem dX_guess_5 : decode cX_guess 5 = .ok (.astore 4, 2) := by decide +kernel
theorem dX_guess_7 : decode cX_guess 7 = .ok (.iload_n 2, 1) := by decide +kernel
theorem dX_guess_8 : decode cX_guess 8 = .ok (.ifCond .lt 8, 3) := by decide +kernel
theorem dX_guess_11 : decode cX_guess 11 = .ok (.iload_n 2, 1) := by decide +kernel
theorem dX_guess_12 : decode cX_guess 12 = .ok (.iconst 4, 1) := by decide +kernel
theorem dX_guess_13 : decode cX_guess 13 = .ok (.if_icmp .le 13, 3) := by decide +kernel
theorem dX_guess_16 : decode cX_guess 16 = .ok (.new 29, 3) := by decide +kernel
theorem dX_guess_19 : decode cX_guess 19 = .ok (.dup, 1) := by decide +kernel
theorem dX_guess_20 : decode cX_guess 20 = .ok (.ldc 122, 2) := by decide +kernel
theorem dX_guess_22 : decode cX_guess 22 = .ok (.invokespecial 33, 3) := by decide +kernel
theorem dX_guess_25 : decode cX_guess 25 = .ok (.athrow, 1) := by decide +kernel
theorem dX_guess_26 : decode cX_guess 26 = .ok (.iload_n 3, 1) := by decide +kernel
theorem dX_guess_27 : decode cX_guess 27 = .ok (.invokestatic 124, 3) := by decide +kernel
theorem dX_guess_30 : decode cX_guess 30 = .ok (.aload_n 0, 1) := by decide +kernel
theorem dX_guess_31 : decode cX_guess 31 = .ok (.getfield 18, 3) := by decide +kernel
theorem dX_guess_34 : decode cX_guess 34 = .ok (.aload_n 0, 1) := by decide +kernel
theorem dX_guess_35 : decode cX_guess 35 = .ok (.aload 4, 2) := by decide +kernel
theorem dX_guess_37 : decode cX_guess 37 = .ok (.invokevirtual 115, 3) := by decide +kernel
theorem dX_guess_40 : decode cX_guess 40 = .ok (.iload_n 2, 1) := by decide +kernel
theorem dX_guess_41 : decode cX_guess 41 = .ok (.iload_n 3, 1) := by decide +kernel
theorem dX_guess_42 : decode cX_guess 42 = .ok (.invokevirtual 127, 3) := by decide +kernel
theorem dX_guess_45 : decode cX_guess 45 = .ok (.ireturn, 1) := by decide +kernel
theorem dX_rule_0 : decode cX_rule 0 = .ok (.iload_n 1, 1) := by decide +kernel
theorem dX_rule_1 : decode cX_rule 1 = .ok (.ifCond .lt 14, 3) := by decide +kernel
theorem dX_rule_4 : decode cX_rule 4 = .ok (.iload_n 1, 1) := by decide +kernel
theorem dX_rule_5 : decode cX_rule 5 = .ok (.aload_n 0, 1) := by decide +kernel
theorem dX_rule_6 : decode cX_rule 6 = .ok (.getfield 18, 3) := by decide +kernel
theorem dX_rule_9 : decode cX_rule 9 = .ok (.getfield 131, 3) := by decide +kernel
theorem dX_rule_12 : decode cX_rule 12 = .ok (.if_icmp .lt 13, 3) := by decide +kernel
theorem dX_rule_15 : decode cX_rule 15 = .ok (.new 134, 3) := by decide +kernel
theorem dX_rule_18 : decode cX_rule 18 = .ok (.dup, 1) := by decide +kernel
theorem dX_rule_19 : decode cX_rule 19 = .ok (.ldc 136, 2) := by decide +kernel
theorem dX_rule_21 : decode cX_rule 21 = .ok (.invokespecial 138, 3) := by decide +kernel
theorem dX_rule_24 : decode cX_rule 24 = .ok (.athrow, 1) := by decide +kernel
theorem dX_rule_25 : decode cX_rule 25 = .ok (.aload_n 0, 1) := by decide +kernel
theorem dX_rule_26 : decode cX_rule 26 = .ok (.getfield 18, 3) := by decide +kernel
theorem dX_rule_29 : decode cX_rule 29 = .ok (.iload_n 1, 1) := by decide +kernel
theorem dX_rule_30 : decode cX_rule 30 = .ok (.iload_n 2, 1) := by decide +kernel
theorem dX_rule_31 : decode cX_rule 31 = .ok (.iload_n 3, 1) := by decide +kernel
theorem dX_rule_32 : decode cX_rule 32 = .ok (.invokevirtual 139, 3) := by decide +kernel
theorem dX_rule_35 : decode cX_rule 35 = .ok (.ireturn, 1) := by decide +kernel
theorem dX_least_0 : decode cX_least 0 = .ok (.aload_n 0, 1) := by decide +kernel
theorem dX_least_1 : decode cX_least 1 = .ok (.iload_n 1, 1) := by decide +kernel
theorem dX_least_2 : decode cX_least 2 = .ok (.invokevirtual 45, 3) := by decide +kernel
theorem dX_least_5 : decode cX_least 5 = .ok (.astore_n 3, 1) := by decide +kernel
theorem dX_least_6 : decode cX_least 6 = .ok (.iload_n 2, 1) := by decide +kernel
theorem dX_least_7 : decode cX_least 7 = .ok (.invokestatic 124, 3) := by decide +kernel
theorem dX_least_10 : decode cX_least 10 = .ok (.aload_n 0, 1) := by decide +kernel
theorem dX_least_11 : decode cX_least 11 = .ok (.aload_n 3, 1) := by decide +kernel
theorem dX_least_12 : decode cX_least 12 = .ok (.invokevirtual 115, 3) := by decide +kernel
theorem dX_least_15 : decode cX_least 15 = .ok (.astore 4, 2) := by decide +kernel
theorem dX_least_17 : decode cX_least 17 = .ok (.iconst 0, 1) := by decide +kernel
theorem dX_least_18 : decode cX_least 18 = .ok (.istore 5, 2) := by decide +kernel
theorem dX_least_20 : decode cX_least 20 = .ok (.iload 5, 2) := by decide +kernel
theorem dX_least_22 : decode cX_least 22 = .ok (.iconst 4, 1) := by decide +kernel
theorem dX_least_23 : decode cX_least 23 = .ok (.if_icmp .gt 27, 3) := by decide +kernel
theorem dX_least_26 : decode cX_least 26 = .ok (.aload_n 0, 1) := by decide +kernel
theorem dX_least_27 : decode cX_least 27 = .ok (.getfield 22, 3) := by decide +kernel
theorem dX_least_30 : decode cX_least 30 = .ok (.aload 4, 2) := by decide +kernel
theorem dX_least_32 : decode cX_least 32 = .ok (.iload 5, 2) := by decide +kernel
theorem dX_least_34 : decode cX_least 34 = .ok (.iload_n 2, 1) := by decide +kernel
theorem dX_least_35 : decode cX_least 35 = .ok (.invokevirtual 127, 3) := by decide +kernel
theorem dX_least_38 : decode cX_least 38 = .ok (.ifCond .le 6, 3) := by decide +kernel
theorem dX_least_41 : decode cX_least 41 = .ok (.iload 5, 2) := by decide +kernel
theorem dX_least_43 : decode cX_least 43 = .ok (.ireturn, 1) := by decide +kernel
theorem dX_least_44 : decode cX_least 44 = .ok (.iinc 5 1, 3) := by decide +kernel
theorem dX_least_47 : decode cX_least 47 = .ok (.goto (-27), 3) := by decide +kernel
theorem dX_least_50 : decode cX_least 50 = .ok (.iconst (-1), 1) := by decide +kernel
theorem dX_least_51 : decode cX_least 51 = .ok (.ireturn, 1) := by decide +kernel
theorem dX_differ_0 : decode cX_differ 0 = .ok (.aload_n 0, 1) := by decide +kernel
theorem dX_differ_1 : decode cX_differ 1 = .ok (.iload_n 1, 1) := by decide +kernel
theorem dX_differ_2 : decode cX_differ 2 = .ok (.invokevirtual 45, 3) := by decide +kernel
theorem dX_differ_5 : decode cX_differ 5 = .ok (.astore_n 3, 1) := by decide +kernel
theorem dX_differ_6 : decode cX_differ 6 = .ok (.aload_n 0, 1) := by decide +kernel
theorem dX_differ_7 : decode cX_differ 7 = .ok (.iload_n 2, 1) := by decide +kernel
theorem dX_differ_8 : decode cX_differ 8 = .ok (.invokevirtual 45, 3) := by decide +kernel
theorem dX_differ_11 : decode cX_differ 11 = .ok (.astore 4, 2) := by decide +kernel
theorem dX_differ_13 : decode cX_differ 13 = .ok (.aload_n 0, 1) := by decide +kernel
theorem dX_differ_14 : decode cX_differ 14 = .ok (.aload_n 3, 1) := by decide +kernel
theorem dX_differ_15 : decode cX_differ 15 = .ok (.invokevirtual 115, 3) := by decide +kernel
theorem dX_differ_18 : decode cX_differ 18 = .ok (.astore 5, 2) := by decide +kernel
theorem dX_differ_20 : decode cX_differ 20 = .ok (.aload_n 0, 1) := by decide +kernel
theorem dX_differ_21 : decode cX_differ 21 = .ok (.aload 4, 2) := by decide +kernel
theorem dX_differ_23 : decode cX_differ 23 = .ok (.invokevirtual 115, 3) := by decide +kernel
theorem dX_differ_26 : decode cX_differ 26 = .ok (.astore 6, 2) := by decide +kernel
theorem dX_differ_28 : decode cX_differ 28 = .ok (.iconst 0, 1) := by decide +kernel
theorem dX_differ_29 : decode cX_differ 29 = .ok (.istore 7, 2) := by decide +kernel
theorem dX_differ_31 : decode cX_differ 31 = .ok (.iload 7, 2) := by decide +kernel
theorem dX_differ_33 : decode cX_differ 33 = .ok (.bipush 64, 2) := by decide +kernel
theorem dX_differ_35 : decode cX_differ 35 = .ok (.if_icmp .ge 25, 3) := by decide +kernel
theorem dX_differ_38 : decode cX_differ 38 = .ok (.aload 5, 2) := by decide +kernel
theorem dX_differ_40 : decode cX_differ 40 = .ok (.iload 7, 2) := by decide +kernel
theorem dX_differ_42 : decode cX_differ 42 = .ok (.iaload, 1) := by decide +kernel
theorem dX_differ_43 : decode cX_differ 43 = .ok (.aload 6, 2) := by decide +kernel
theorem dX_differ_45 : decode cX_differ 45 = .ok (.iload 7, 2) := by decide +kernel
theorem dX_differ_47 : decode cX_differ 47 = .ok (.iaload, 1) := by decide +kernel
theorem dX_differ_48 : decode cX_differ 48 = .ok (.if_icmp .eq 6, 3) := by decide +kernel
theorem dX_differ_51 : decode cX_differ 51 = .ok (.iload 7, 2) := by decide +kernel
theorem dX_differ_53 : decode cX_differ 53 = .ok (.ireturn, 1) := by decide +kernel
theorem dX_differ_54 : decode cX_differ 54 = .ok (.iinc 7 1, 3) := by decide +kernel
theorem dX_differ_57 : decode cX_differ 57 = .ok (.goto (-26), 3) := by decide +kernel
theorem dX_differ_60 : decode cX_differ 60 = .ok (.iconst (-1), 1) := by decide +kernel
theorem dX_differ_61 : decode cX_differ 61 = .ok (.ireturn, 1) := by decide +kernel
theorem dX_hangs_0 : decode cX_hangs 0 = .ok (.aload_n 0, 1) := by decide +kernel
theorem dX_hangs_1 : decode cX_hangs 1 = .ok (.iload_n 1, 1) := by decide +kernel
theorem dX_hangs_2 : decode cX_hangs 2 = .ok (.invokevirtual 45, 3) := by decide +kernel
theorem dX_hangs_5 : decode cX_hangs 5 = .ok (.astore_n 3, 1) := by decide +kernel
theorem dX_hangs_6 : decode cX_hangs 6 = .ok (.aload_n 0, 1) := by decide +kernel
theorem dX_hangs_7 : decode cX_hangs 7 = .ok (.iload_n 2, 1) := by decide +kernel
theorem dX_hangs_8 : decode cX_hangs 8 = .ok (.invokevirtual 45, 3) := by decide +kernel
theorem dX_hangs_11 : decode cX_hangs 11 = .ok (.pop, 1) := by decide +kernel
theorem dX_hangs_12 : decode cX_hangs 12 = .ok (.aload_n 3, 1) := by decide +kernel
theorem dX_hangs_13 : decode cX_hangs 13 = .ok (.iload_n 2, 1) := by decide +kernel
theorem dX_hangs_14 : decode cX_hangs 14 = .ok (.invokevirtual 143, 3) := by decide +kernel
theorem dX_hangs_17 : decode cX_hangs 17 = .ok (.ireturn, 1) := by decide +kernel
theorem dX_count_0 : decode cX_count 0 = .ok (.aload_n 0, 1) := by decide +kernel
theorem dX_count_1 : decode cX_count 1 = .ok (.getfield 147, 3) := by decide +kernel
theorem dX_count_4 : decode cX_count 4 = .ok (.ireturn, 1) := by decide +kernel
theorem dX_existing_0 : decode cX_existing 0 = .ok (.iload_n 1, 1) := by decide +kernel
theorem dX_existing_1 : decode cX_existing 1 = .ok (.ifCond .lt 18, 3) := by decide +kernel
theorem dX_existing_4 : decode cX_existing 4 = .ok (.iload_n 1, 1) := by decide +kernel
theorem dX_existing_5 : decode cX_existing 5 = .ok (.bipush 40, 2) := by decide +kernel
theorem dX_existing_7 : decode cX_existing 7 = .ok (.if_icmp .ge 12, 3) := by decide +kernel
theorem dX_existing_10 : decode cX_existing 10 = .ok (.aload_n 0, 1) := by decide +kernel
theorem dX_existing_11 : decode cX_existing 11 = .ok (.getfield 11, 3) := by decide +kernel
theorem dX_existing_14 : decode cX_existing 14 = .ok (.iload_n 1, 1) := by decide +kernel
theorem dX_existing_15 : decode cX_existing 15 = .ok (.aaload, 1) := by decide +kernel
theorem dX_existing_16 : decode cX_existing 16 = .ok (.goto 4, 3) := by decide +kernel
theorem dX_existing_19 : decode cX_existing 19 = .ok (.aconst_null, 1) := by decide +kernel
theorem dX_existing_20 : decode cX_existing 20 = .ok (.astore_n 2, 1) := by decide +kernel
theorem dX_existing_21 : decode cX_existing 21 = .ok (.aload_n 2, 1) := by decide +kernel
theorem dX_existing_22 : decode cX_existing 22 = .ok (.ifnonnull 13, 3) := by decide +kernel
theorem dX_existing_25 : decode cX_existing 25 = .ok (.new 134, 3) := by decide +kernel
theorem dX_existing_28 : decode cX_existing 28 = .ok (.dup, 1) := by decide +kernel
theorem dX_existing_29 : decode cX_existing 29 = .ok (.ldc 150, 2) := by decide +kernel
theorem dX_existing_31 : decode cX_existing 31 = .ok (.invokespecial 138, 3) := by decide +kernel
theorem dX_existing_34 : decode cX_existing 34 = .ok (.athrow, 1) := by decide +kernel
theorem dX_existing_35 : decode cX_existing 35 = .ok (.aload_n 2, 1) := by decide +kernel
theorem dX_existing_36 : decode cX_existing 36 = .ok (.areturn, 1) := by decide +kernel
theorem dX_recurrence_0 : decode cX_recurrence 0 = .ok (.aload_n 0, 1) := by decide +kernel
theorem dX_recurrence_1 : decode cX_recurrence 1 = .ok (.instanceof 36, 3) := by decide +kernel
theorem dX_recurrence_4 : decode cX_recurrence 4 = .ok (.ifCond .eq 10, 3) := by decide +kernel
theorem dX_recurrence_7 : decode cX_recurrence 7 = .ok (.aload_n 0, 1) := by decide +kernel
theorem dX_recurrence_8 : decode cX_recurrence 8 = .ok (.checkcast 36, 3) := by decide +kernel
theorem dX_recurrence_11 : decode cX_recurrence 11 = .ok (.astore_n 1, 1) := by decide +kernel
theorem dX_recurrence_12 : decode cX_recurrence 12 = .ok (.aload_n 1, 1) := by decide +kernel
theorem dX_recurrence_13 : decode cX_recurrence 13 = .ok (.areturn, 1) := by decide +kernel
theorem dX_recurrence_14 : decode cX_recurrence 14 = .ok (.new 29, 3) := by decide +kernel
theorem dX_recurrence_17 : decode cX_recurrence 17 = .ok (.dup, 1) := by decide +kernel
theorem dX_recurrence_18 : decode cX_recurrence 18 = .ok (.ldc 152, 2) := by decide +kernel
theorem dX_recurrence_20 : decode cX_recurrence 20 = .ok (.invokespecial 33, 3) := by decide +kernel
theorem dX_recurrence_23 : decode cX_recurrence 23 = .ok (.athrow, 1) := by decide +kernel
theorem dX_checkPlace_0 : decode cX_checkPlace 0 = .ok (.iload_n 0, 1) := by decide +kernel
theorem dX_checkPlace_1 : decode cX_checkPlace 1 = .ok (.ifCond .lt 9, 3) := by decide +kernel
theorem dX_checkPlace_4 : decode cX_checkPlace 4 = .ok (.iload_n 0, 1) := by decide +kernel
theorem dX_checkPlace_5 : decode cX_checkPlace 5 = .ok (.bipush 64, 2) := by decide +kernel
theorem dX_checkPlace_7 : decode cX_checkPlace 7 = .ok (.if_icmp .lt 13, 3) := by decide +kernel
theorem dX_checkPlace_10 : decode cX_checkPlace 10 = .ok (.new 134, 3) := by decide +kernel
theorem dX_checkPlace_13 : decode cX_checkPlace 13 = .ok (.dup, 1) := by decide +kernel
theorem dX_checkPlace_14 : decode cX_checkPlace 14 = .ok (.ldc 154, 2) := by decide +kernel
theorem dX_checkPlace_16 : decode cX_checkPlace 16 = .ok (.invokespecial 138, 3) := by decide +kernel
theorem dX_checkPlace_19 : decode cX_checkPlace 19 = .ok (.athrow, 1) := by decide +kernel
theorem dX_checkPlace_20 : decode cX_checkPlace 20 = .ok (.return_, 1) := by decide +kernel
theorem dX_checkDegree_0 : decode cX_checkDegree 0 = .ok (.iload_n 0, 1) := by decide +kernel
theorem dX_checkDegree_1 : decode cX_checkDegree 1 = .ok (.ifCond .lt 8, 3) := by decide +kernel
theorem dX_checkDegree_4 : decode cX_checkDegree 4 = .ok (.iload_n 0, 1) := by decide +kernel
theorem dX_checkDegree_5 : decode cX_checkDegree 5 = .ok (.iconst 3, 1) := by decide +kernel
theorem dX_checkDegree_6 : decode cX_checkDegree 6 = .ok (.if_icmp .le 13, 3) := by decide +kernel
theorem dX_checkDegree_9 : decode cX_checkDegree 9 = .ok (.new 29, 3) := by decide +kernel
theorem dX_checkDegree_12 : decode cX_checkDegree 12 = .ok (.dup, 1) := by decide +kernel
theorem dX_checkDegree_13 : decode cX_checkDegree 13 = .ok (.ldc 156, 2) := by decide +kernel
theorem dX_checkDegree_15 : decode cX_checkDegree 15 = .ok (.invokespecial 33, 3) := by decide +kernel
theorem dX_checkDegree_18 : decode cX_checkDegree 18 = .ok (.athrow, 1) := by decide +kernel
theorem dX_checkDegree_19 : decode cX_checkDegree 19 = .ok (.return_, 1) := by decide +kernel
theorem dX_freeNumber_0 : decode cX_freeNumber 0 = .ok (.aload_n 0, 1) := by decide +kernel
theorem dX_freeNumber_1 : decode cX_freeNumber 1 = .ok (.getfield 147, 3) := by decide +kernel
theorem dX_freeNumber_4 : decode cX_freeNumber 4 = .ok (.bipush 40, 2) := by decide +kernel
theorem dX_freeNumber_6 : decode cX_freeNumber 6 = .ok (.if_icmp .lt 13, 3) := by decide +kernel
theorem dX_freeNumber_9 : decode cX_freeNumber 9 = .ok (.new 158, 3) := by decide +kernel
theorem dX_freeNumber_12 : decode cX_freeNumber 12 = .ok (.dup, 1) := by decide +kernel
theorem dX_freeNumber_13 : decode cX_freeNumber 13 = .ok (.ldc 160, 2) := by decide +kernel
theorem dX_freeNumber_15 : decode cX_freeNumber 15 = .ok (.invokespecial 162, 3) := by decide +kernel
theorem dX_freeNumber_18 : decode cX_freeNumber 18 = .ok (.athrow, 1) := by decide +kernel
theorem dX_freeNumber_19 : decode cX_freeNumber 19 = .ok (.aload_n 0, 1) := by decide +kernel
theorem dX_freeNumber_20 : decode cX_freeNumber 20 = .ok (.getfield 147, 3) := by decide +kernel
theorem dX_freeNumber_23 : decode cX_freeNumber 23 = .ok (.ireturn, 1) := by decide +kernel
theorem dX_keep_0 : decode cX_keep 0 = .ok (.aload_n 0, 1) := by decide +kernel
theorem dX_keep_1 : decode cX_keep 1 = .ok (.getfield 11, 3) := by decide +kernel
theorem dX_keep_4 : decode cX_keep 4 = .ok (.iload_n 1, 1) := by decide +kernel
theorem dX_keep_5 : decode cX_keep 5 = .ok (.aload_n 2, 1) := by decide +kernel
theorem dX_keep_6 : decode cX_keep 6 = .ok (.aastore, 1) := by decide +kernel
theorem dX_keep_7 : decode cX_keep 7 = .ok (.aload_n 0, 1) := by decide +kernel
theorem dX_keep_8 : decode cX_keep 8 = .ok (.iload_n 1, 1) := by decide +kernel
theorem dX_keep_9 : decode cX_keep 9 = .ok (.iconst 1, 1) := by decide +kernel
theorem dX_keep_10 : decode cX_keep 10 = .ok (.iadd, 1) := by decide +kernel
theorem dX_keep_11 : decode cX_keep 11 = .ok (.putfield 147, 3) := by decide +kernel
theorem dX_keep_14 : decode cX_keep 14 = .ok (.iload_n 1, 1) := by decide +kernel
theorem dX_keep_15 : decode cX_keep 15 = .ok (.ireturn, 1) := by decide +kernel
theorem dX_combine_0 : decode cX_combine 0 = .ok (.aload_n 0, 1) := by decide +kernel
theorem dX_combine_1 : decode cX_combine 1 = .ok (.iload_n 2, 1) := by decide +kernel
theorem dX_combine_2 : decode cX_combine 2 = .ok (.invokevirtual 45, 3) := by decide +kernel
theorem dX_combine_5 : decode cX_combine 5 = .ok (.astore 4, 2) := by decide +kernel
theorem dX_combine_7 : decode cX_combine 7 = .ok (.aload_n 0, 1) := by decide +kernel
theorem dX_combine_8 : decode cX_combine 8 = .ok (.iload_n 3, 1) := by decide +kernel
theorem dX_combine_9 : decode cX_combine 9 = .ok (.invokevirtual 45, 3) := by decide +kernel
theorem dX_combine_12 : decode cX_combine 12 = .ok (.astore 5, 2) := by decide +kernel
theorem dX_combine_14 : decode cX_combine 14 = .ok (.aload_n 0, 1) := by decide +kernel
theorem dX_combine_15 : decode cX_combine 15 = .ok (.invokevirtual 25, 3) := by decide +kernel
theorem dX_combine_18 : decode cX_combine 18 = .ok (.istore 6, 2) := by decide +kernel
theorem dX_combine_20 : decode cX_combine 20 = .ok (.aload_n 0, 1) := by decide +kernel
theorem dX_combine_21 : decode cX_combine 21 = .ok (.iload 6, 2) := by decide +kernel
theorem dX_combine_23 : decode cX_combine 23 = .ok (.new 101, 3) := by decide +kernel
theorem dX_combine_26 : decode cX_combine 26 = .ok (.dup, 1) := by decide +kernel
theorem dX_combine_27 : decode cX_combine 27 = .ok (.iload 6, 2) := by decide +kernel
theorem dX_combine_29 : decode cX_combine 29 = .ok (.aload_n 1, 1) := by decide +kernel
theorem dX_combine_30 : decode cX_combine 30 = .ok (.aload 4, 2) := by decide +kernel
theorem dX_combine_32 : decode cX_combine 32 = .ok (.aload 5, 2) := by decide +kernel
theorem dX_combine_34 : decode cX_combine 34 = .ok (.iconst 0, 1) := by decide +kernel
theorem dX_combine_35 : decode cX_combine 35 = .ok (.invokespecial 106, 3) := by decide +kernel
theorem dX_combine_38 : decode cX_combine 38 = .ok (.invokevirtual 41, 3) := by decide +kernel
theorem dX_combine_41 : decode cX_combine 41 = .ok (.ireturn, 1) := by decide +kernel
theorem dX_replace_0 : decode cX_replace 0 = .ok (.aload_n 2, 1) := by decide +kernel
theorem dX_replace_1 : decode cX_replace 1 = .ok (.iload_n 3, 1) := by decide +kernel
theorem dX_replace_2 : decode cX_replace 2 = .ok (.iaload, 1) := by decide +kernel
theorem dX_replace_3 : decode cX_replace 3 = .ok (.iload 4, 2) := by decide +kernel
theorem dX_replace_5 : decode cX_replace 5 = .ok (.if_icmp .ne 5, 3) := by decide +kernel
theorem dX_replace_8 : decode cX_replace 8 = .ok (.iconst 0, 1) := by decide +kernel
theorem dX_replace_9 : decode cX_replace 9 = .ok (.ireturn, 1) := by decide +kernel
theorem dX_replace_10 : decode cX_replace 10 = .ok (.aload_n 2, 1) := by decide +kernel
theorem dX_replace_11 : decode cX_replace 11 = .ok (.iload_n 3, 1) := by decide +kernel
theorem dX_replace_12 : decode cX_replace 12 = .ok (.iload 4, 2) := by decide +kernel
theorem dX_replace_14 : decode cX_replace 14 = .ok (.iastore, 1) := by decide +kernel
theorem dX_replace_15 : decode cX_replace 15 = .ok (.aload_n 0, 1) := by decide +kernel
theorem dX_replace_16 : decode cX_replace 16 = .ok (.iload_n 1, 1) := by decide +kernel
theorem dX_replace_17 : decode cX_replace 17 = .ok (.invokevirtual 163, 3) := by decide +kernel
theorem dX_replace_20 : decode cX_replace 20 = .ok (.iconst 1, 1) := by decide +kernel
theorem dX_replace_21 : decode cX_replace 21 = .ok (.ireturn, 1) := by decide +kernel
theorem dX_spoil_0 : decode cX_spoil 0 = .ok (.iconst 0, 1) := by decide +kernel
theorem dX_spoil_1 : decode cX_spoil 1 = .ok (.istore_n 2, 1) := by decide +kernel
theorem dX_spoil_2 : decode cX_spoil 2 = .ok (.iload_n 2, 1) := by decide +kernel
theorem dX_spoil_3 : decode cX_spoil 3 = .ok (.bipush 40, 2) := by decide +kernel
theorem dX_spoil_5 : decode cX_spoil 5 = .ok (.if_icmp .ge 33, 3) := by decide +kernel
theorem dX_spoil_8 : decode cX_spoil 8 = .ok (.aload_n 0, 1) := by decide +kernel
theorem dX_spoil_9 : decode cX_spoil 9 = .ok (.getfield 11, 3) := by decide +kernel
theorem dX_spoil_12 : decode cX_spoil 12 = .ok (.iload_n 2, 1) := by decide +kernel
theorem dX_spoil_13 : decode cX_spoil 13 = .ok (.aaload, 1) := by decide +kernel
theorem dX_spoil_14 : decode cX_spoil 14 = .ok (.astore_n 3, 1) := by decide +kernel
theorem dX_spoil_15 : decode cX_spoil 15 = .ok (.aload_n 3, 1) := by decide +kernel
theorem dX_spoil_16 : decode cX_spoil 16 = .ok (.ifnull 16, 3) := by decide +kernel
theorem dX_spoil_19 : decode cX_spoil 19 = .ok (.aload_n 3, 1) := by decide +kernel
theorem dX_spoil_20 : decode cX_spoil 20 = .ok (.iload_n 1, 1) := by decide +kernel
theorem dX_spoil_21 : decode cX_spoil 21 = .ok (.invokevirtual 143, 3) := by decide +kernel
theorem dX_spoil_24 : decode cX_spoil 24 = .ok (.ifCond .eq 8, 3) := by decide +kernel
theorem dX_spoil_27 : decode cX_spoil 27 = .ok (.aload_n 3, 1) := by decide +kernel
theorem dX_spoil_28 : decode cX_spoil 28 = .ok (.iconst 0, 1) := by decide +kernel
theorem dX_spoil_29 : decode cX_spoil 29 = .ok (.putfield 166, 3) := by decide +kernel
theorem dX_spoil_32 : decode cX_spoil 32 = .ok (.iinc 2 1, 3) := by decide +kernel
theorem dX_spoil_35 : decode cX_spoil 35 = .ok (.goto (-33), 3) := by decide +kernel
theorem dX_spoil_38 : decode cX_spoil 38 = .ok (.return_, 1) := by decide +kernel
theorem dX_freshNumbers_0 : decode cX_freshNumbers 0 = .ok (.iconst 0, 1) := by decide +kernel
theorem dX_freshNumbers_1 : decode cX_freshNumbers 1 = .ok (.istore_n 2, 1) := by decide +kernel
theorem dX_freshNumbers_2 : decode cX_freshNumbers 2 = .ok (.iload_n 2, 1) := by decide +kernel
theorem dX_freshNumbers_3 : decode cX_freshNumbers 3 = .ok (.bipush 40, 2) := by decide +kernel
theorem dX_freshNumbers_5 : decode cX_freshNumbers 5 = .ok (.if_icmp .ge 39, 3) := by decide +kernel
theorem dX_freshNumbers_8 : decode cX_freshNumbers 8 = .ok (.aload_n 0, 1) := by decide +kernel
theorem dX_freshNumbers_9 : decode cX_freshNumbers 9 = .ok (.getfield 11, 3) := by decide +kernel
theorem dX_freshNumbers_12 : decode cX_freshNumbers 12 = .ok (.iload_n 2, 1) := by decide +kernel
theorem dX_freshNumbers_13 : decode cX_freshNumbers 13 = .ok (.aaload, 1) := by decide +kernel
theorem dX_freshNumbers_14 : decode cX_freshNumbers 14 = .ok (.astore_n 3, 1) := by decide +kernel
