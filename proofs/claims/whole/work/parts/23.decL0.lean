/-! Decoded. -/
theorem dL_function_0 : decode cL_function 0 = .ok (.aload_n 2, 1) := by decide +kernel
theorem dL_function_1 : decode cL_function 1 = .ok (.iconst 0, 1) := by decide +kernel
theorem dL_function_2 : decode cL_function 2 = .ok (.aload_n 0, 1) := by decide +kernel
theorem dL_function_3 : decode cL_function 3 = .ok (.iload_n 1, 1) := by decide +kernel
theorem dL_function_4 : decode cL_function 4 = .ok (.invokevirtual 7, 3) := by decide +kernel
theorem dL_function_7 : decode cL_function 7 = .ok (.i2l, 1) := by decide +kernel
theorem dL_function_8 : decode cL_function 8 = .ok (.lastore, 1) := by decide +kernel
theorem dL_function_9 : decode cL_function 9 = .ok (.goto 9, 3) := by decide +kernel
theorem dL_function_12 : decode cL_function 12 = .ok (.astore_n 3, 1) := by decide +kernel
theorem dL_function_13 : decode cL_function 13 = .ok (.iconst 1, 1) := by decide +kernel
theorem dL_function_14 : decode cL_function 14 = .ok (.ireturn, 1) := by decide +kernel
theorem dL_function_15 : decode cL_function 15 = .ok (.astore_n 3, 1) := by decide +kernel
theorem dL_function_16 : decode cL_function 16 = .ok (.iconst 2, 1) := by decide +kernel
theorem dL_function_17 : decode cL_function 17 = .ok (.ireturn, 1) := by decide +kernel
theorem dL_function_18 : decode cL_function 18 = .ok (.iconst 0, 1) := by decide +kernel
theorem dL_function_19 : decode cL_function 19 = .ok (.ireturn, 1) := by decide +kernel
theorem dL_factor_0 : decode cL_factor 0 = .ok (.aload 6, 2) := by decide +kernel
theorem dL_factor_2 : decode cL_factor 2 = .ok (.iconst 0, 1) := by decide +kernel
theorem dL_factor_3 : decode cL_factor 3 = .ok (.aload_n 0, 1) := by decide +kernel
theorem dL_factor_4 : decode cL_factor 4 = .ok (.iload_n 1, 1) := by decide +kernel
theorem dL_factor_5 : decode cL_factor 5 = .ok (.iload_n 2, 1) := by decide +kernel
theorem dL_factor_6 : decode cL_factor 6 = .ok (.iload_n 3, 1) := by decide +kernel
theorem dL_factor_7 : decode cL_factor 7 = .ok (.lload 4, 2) := by decide +kernel
theorem dL_factor_9 : decode cL_factor 9 = .ok (.invokevirtual 17, 3) := by decide +kernel
theorem dL_factor_12 : decode cL_factor 12 = .ok (.ifCond .eq 7, 3) := by decide +kernel
theorem dL_factor_15 : decode cL_factor 15 = .ok (.lconst 1, 1) := by decide +kernel
theorem dL_factor_16 : decode cL_factor 16 = .ok (.goto 4, 3) := by decide +kernel
theorem dL_factor_19 : decode cL_factor 19 = .ok (.lconst 0, 1) := by decide +kernel
theorem dL_factor_20 : decode cL_factor 20 = .ok (.lastore, 1) := by decide +kernel
theorem dL_factor_21 : decode cL_factor 21 = .ok (.goto 11, 3) := by decide +kernel
theorem dL_factor_24 : decode cL_factor 24 = .ok (.astore 7, 2) := by decide +kernel
theorem dL_factor_26 : decode cL_factor 26 = .ok (.iconst 1, 1) := by decide +kernel
theorem dL_factor_27 : decode cL_factor 27 = .ok (.ireturn, 1) := by decide +kernel
theorem dL_factor_28 : decode cL_factor 28 = .ok (.astore 7, 2) := by decide +kernel
theorem dL_factor_30 : decode cL_factor 30 = .ok (.iconst 2, 1) := by decide +kernel
theorem dL_factor_31 : decode cL_factor 31 = .ok (.ireturn, 1) := by decide +kernel
theorem dL_factor_32 : decode cL_factor 32 = .ok (.iconst 0, 1) := by decide +kernel
theorem dL_factor_33 : decode cL_factor 33 = .ok (.ireturn, 1) := by decide +kernel
theorem dL_start_0 : decode cL_start 0 = .ok (.aload 5, 2) := by decide +kernel
theorem dL_start_2 : decode cL_start 2 = .ok (.iconst 0, 1) := by decide +kernel
theorem dL_start_3 : decode cL_start 3 = .ok (.aload_n 0, 1) := by decide +kernel
theorem dL_start_4 : decode cL_start 4 = .ok (.iload_n 1, 1) := by decide +kernel
theorem dL_start_5 : decode cL_start 5 = .ok (.iload_n 2, 1) := by decide +kernel
theorem dL_start_6 : decode cL_start 6 = .ok (.lload_n 3, 1) := by decide +kernel
theorem dL_start_7 : decode cL_start 7 = .ok (.invokevirtual 23, 3) := by decide +kernel
theorem dL_start_10 : decode cL_start 10 = .ok (.ifCond .eq 7, 3) := by decide +kernel
theorem dL_start_13 : decode cL_start 13 = .ok (.lconst 1, 1) := by decide +kernel
theorem dL_start_14 : decode cL_start 14 = .ok (.goto 4, 3) := by decide +kernel
theorem dL_start_17 : decode cL_start 17 = .ok (.lconst 0, 1) := by decide +kernel
theorem dL_start_18 : decode cL_start 18 = .ok (.lastore, 1) := by decide +kernel
theorem dL_start_19 : decode cL_start 19 = .ok (.goto 11, 3) := by decide +kernel
theorem dL_start_22 : decode cL_start 22 = .ok (.astore 6, 2) := by decide +kernel
theorem dL_start_24 : decode cL_start 24 = .ok (.iconst 1, 1) := by decide +kernel
theorem dL_start_25 : decode cL_start 25 = .ok (.ireturn, 1) := by decide +kernel
theorem dL_start_26 : decode cL_start 26 = .ok (.astore 6, 2) := by decide +kernel
theorem dL_start_28 : decode cL_start 28 = .ok (.iconst 2, 1) := by decide +kernel
theorem dL_start_29 : decode cL_start 29 = .ok (.ireturn, 1) := by decide +kernel
theorem dL_start_30 : decode cL_start 30 = .ok (.iconst 0, 1) := by decide +kernel
theorem dL_start_31 : decode cL_start 31 = .ok (.ireturn, 1) := by decide +kernel
theorem dL_add_0 : decode cL_add 0 = .ok (.aload_n 3, 1) := by decide +kernel
theorem dL_add_1 : decode cL_add 1 = .ok (.iconst 0, 1) := by decide +kernel
theorem dL_add_2 : decode cL_add 2 = .ok (.aload_n 0, 1) := by decide +kernel
theorem dL_add_3 : decode cL_add 3 = .ok (.iload_n 1, 1) := by decide +kernel
theorem dL_add_4 : decode cL_add 4 = .ok (.iload_n 2, 1) := by decide +kernel
theorem dL_add_5 : decode cL_add 5 = .ok (.invokevirtual 27, 3) := by decide +kernel
theorem dL_add_8 : decode cL_add 8 = .ok (.i2l, 1) := by decide +kernel
theorem dL_add_9 : decode cL_add 9 = .ok (.lastore, 1) := by decide +kernel
theorem dL_add_10 : decode cL_add 10 = .ok (.goto 11, 3) := by decide +kernel
theorem dL_add_13 : decode cL_add 13 = .ok (.astore 4, 2) := by decide +kernel
theorem dL_add_15 : decode cL_add 15 = .ok (.iconst 1, 1) := by decide +kernel
theorem dL_add_16 : decode cL_add 16 = .ok (.ireturn, 1) := by decide +kernel
theorem dL_add_17 : decode cL_add 17 = .ok (.astore 4, 2) := by decide +kernel
theorem dL_add_19 : decode cL_add 19 = .ok (.iconst 2, 1) := by decide +kernel
theorem dL_add_20 : decode cL_add 20 = .ok (.ireturn, 1) := by decide +kernel
theorem dL_add_21 : decode cL_add 21 = .ok (.iconst 0, 1) := by decide +kernel
theorem dL_add_22 : decode cL_add 22 = .ok (.ireturn, 1) := by decide +kernel
theorem dL_times_0 : decode cL_times 0 = .ok (.aload_n 3, 1) := by decide +kernel
theorem dL_times_1 : decode cL_times 1 = .ok (.iconst 0, 1) := by decide +kernel
theorem dL_times_2 : decode cL_times 2 = .ok (.aload_n 0, 1) := by decide +kernel
theorem dL_times_3 : decode cL_times 3 = .ok (.iload_n 1, 1) := by decide +kernel
theorem dL_times_4 : decode cL_times 4 = .ok (.iload_n 2, 1) := by decide +kernel
theorem dL_times_5 : decode cL_times 5 = .ok (.invokevirtual 31, 3) := by decide +kernel
theorem dL_times_8 : decode cL_times 8 = .ok (.i2l, 1) := by decide +kernel
theorem dL_times_9 : decode cL_times 9 = .ok (.lastore, 1) := by decide +kernel
theorem dL_times_10 : decode cL_times 10 = .ok (.goto 11, 3) := by decide +kernel
theorem dL_times_13 : decode cL_times 13 = .ok (.astore 4, 2) := by decide +kernel
theorem dL_times_15 : decode cL_times 15 = .ok (.iconst 1, 1) := by decide +kernel
theorem dL_times_16 : decode cL_times 16 = .ok (.ireturn, 1) := by decide +kernel
theorem dL_times_17 : decode cL_times 17 = .ok (.astore 4, 2) := by decide +kernel
theorem dL_times_19 : decode cL_times 19 = .ok (.iconst 2, 1) := by decide +kernel
theorem dL_times_20 : decode cL_times 20 = .ok (.ireturn, 1) := by decide +kernel
theorem dL_times_21 : decode cL_times 21 = .ok (.iconst 0, 1) := by decide +kernel
theorem dL_times_22 : decode cL_times 22 = .ok (.ireturn, 1) := by decide +kernel
theorem dL_convolve_0 : decode cL_convolve 0 = .ok (.aload_n 3, 1) := by decide +kernel
theorem dL_convolve_1 : decode cL_convolve 1 = .ok (.iconst 0, 1) := by decide +kernel
theorem dL_convolve_2 : decode cL_convolve 2 = .ok (.aload_n 0, 1) := by decide +kernel
theorem dL_convolve_3 : decode cL_convolve 3 = .ok (.iload_n 1, 1) := by decide +kernel
theorem dL_convolve_4 : decode cL_convolve 4 = .ok (.iload_n 2, 1) := by decide +kernel
theorem dL_convolve_5 : decode cL_convolve 5 = .ok (.invokevirtual 34, 3) := by decide +kernel
theorem dL_convolve_8 : decode cL_convolve 8 = .ok (.i2l, 1) := by decide +kernel
theorem dL_convolve_9 : decode cL_convolve 9 = .ok (.lastore, 1) := by decide +kernel
theorem dL_convolve_10 : decode cL_convolve 10 = .ok (.goto 11, 3) := by decide +kernel
theorem dL_convolve_13 : decode cL_convolve 13 = .ok (.astore 4, 2) := by decide +kernel
theorem dL_convolve_15 : decode cL_convolve 15 = .ok (.iconst 1, 1) := by decide +kernel
theorem dL_convolve_16 : decode cL_convolve 16 = .ok (.ireturn, 1) := by decide +kernel
theorem dL_convolve_17 : decode cL_convolve 17 = .ok (.astore 4, 2) := by decide +kernel
theorem dL_convolve_19 : decode cL_convolve 19 = .ok (.iconst 2, 1) := by decide +kernel
theorem dL_convolve_20 : decode cL_convolve 20 = .ok (.ireturn, 1) := by decide +kernel
theorem dL_convolve_21 : decode cL_convolve 21 = .ok (.iconst 0, 1) := by decide +kernel
theorem dL_convolve_22 : decode cL_convolve 22 = .ok (.ireturn, 1) := by decide +kernel
theorem dL_weave_0 : decode cL_weave 0 = .ok (.aload_n 3, 1) := by decide +kernel
theorem dL_weave_1 : decode cL_weave 1 = .ok (.iconst 0, 1) := by decide +kernel
theorem dL_weave_2 : decode cL_weave 2 = .ok (.aload_n 0, 1) := by decide +kernel
theorem dL_weave_3 : decode cL_weave 3 = .ok (.iload_n 1, 1) := by decide +kernel
theorem dL_weave_4 : decode cL_weave 4 = .ok (.iload_n 2, 1) := by decide +kernel
theorem dL_weave_5 : decode cL_weave 5 = .ok (.invokevirtual 37, 3) := by decide +kernel
theorem dL_weave_8 : decode cL_weave 8 = .ok (.i2l, 1) := by decide +kernel
theorem dL_weave_9 : decode cL_weave 9 = .ok (.lastore, 1) := by decide +kernel
theorem dL_weave_10 : decode cL_weave 10 = .ok (.goto 11, 3) := by decide +kernel
theorem dL_weave_13 : decode cL_weave 13 = .ok (.astore 4, 2) := by decide +kernel
theorem dL_weave_15 : decode cL_weave 15 = .ok (.iconst 1, 1) := by decide +kernel
theorem dL_weave_16 : decode cL_weave 16 = .ok (.ireturn, 1) := by decide +kernel
theorem dL_weave_17 : decode cL_weave 17 = .ok (.astore 4, 2) := by decide +kernel
theorem dL_weave_19 : decode cL_weave 19 = .ok (.iconst 2, 1) := by decide +kernel
theorem dL_weave_20 : decode cL_weave 20 = .ok (.ireturn, 1) := by decide +kernel
theorem dL_weave_21 : decode cL_weave 21 = .ok (.iconst 0, 1) := by decide +kernel
theorem dL_weave_22 : decode cL_weave 22 = .ok (.ireturn, 1) := by decide +kernel
theorem dL_shift_0 : decode cL_shift 0 = .ok (.aload_n 3, 1) := by decide +kernel
theorem dL_shift_1 : decode cL_shift 1 = .ok (.iconst 0, 1) := by decide +kernel
theorem dL_shift_2 : decode cL_shift 2 = .ok (.aload_n 0, 1) := by decide +kernel
theorem dL_shift_3 : decode cL_shift 3 = .ok (.iload_n 1, 1) := by decide +kernel
theorem dL_shift_4 : decode cL_shift 4 = .ok (.iload_n 2, 1) := by decide +kernel
theorem dL_shift_5 : decode cL_shift 5 = .ok (.invokevirtual 40, 3) := by decide +kernel
theorem dL_shift_8 : decode cL_shift 8 = .ok (.i2l, 1) := by decide +kernel
theorem dL_shift_9 : decode cL_shift 9 = .ok (.lastore, 1) := by decide +kernel
theorem dL_shift_10 : decode cL_shift 10 = .ok (.goto 15, 3) := by decide +kernel
theorem dL_shift_13 : decode cL_shift 13 = .ok (.astore 4, 2) := by decide +kernel
theorem dL_shift_15 : decode cL_shift 15 = .ok (.iconst 1, 1) := by decide +kernel
theorem dL_shift_16 : decode cL_shift 16 = .ok (.ireturn, 1) := by decide +kernel
theorem dL_shift_17 : decode cL_shift 17 = .ok (.astore 4, 2) := by decide +kernel
theorem dL_shift_19 : decode cL_shift 19 = .ok (.iconst 2, 1) := by decide +kernel
theorem dL_shift_20 : decode cL_shift 20 = .ok (.ireturn, 1) := by decide +kernel
theorem dL_shift_21 : decode cL_shift 21 = .ok (.astore 4, 2) := by decide +kernel
theorem dL_shift_23 : decode cL_shift 23 = .ok (.iconst 3, 1) := by decide +kernel
theorem dL_shift_24 : decode cL_shift 24 = .ok (.ireturn, 1) := by decide +kernel
theorem dL_shift_25 : decode cL_shift 25 = .ok (.iconst 0, 1) := by decide +kernel
theorem dL_shift_26 : decode cL_shift 26 = .ok (.ireturn, 1) := by decide +kernel
theorem dL_sums_0 : decode cL_sums 0 = .ok (.aload_n 2, 1) := by decide +kernel
theorem dL_sums_1 : decode cL_sums 1 = .ok (.iconst 0, 1) := by decide +kernel
theorem dL_sums_2 : decode cL_sums 2 = .ok (.aload_n 0, 1) := by decide +kernel
theorem dL_sums_3 : decode cL_sums 3 = .ok (.iload_n 1, 1) := by decide +kernel
theorem dL_sums_4 : decode cL_sums 4 = .ok (.invokevirtual 43, 3) := by decide +kernel
theorem dL_sums_7 : decode cL_sums 7 = .ok (.i2l, 1) := by decide +kernel
theorem dL_sums_8 : decode cL_sums 8 = .ok (.lastore, 1) := by decide +kernel
theorem dL_sums_9 : decode cL_sums 9 = .ok (.goto 9, 3) := by decide +kernel
theorem dL_sums_12 : decode cL_sums 12 = .ok (.astore_n 3, 1) := by decide +kernel
theorem dL_sums_13 : decode cL_sums 13 = .ok (.iconst 1, 1) := by decide +kernel
theorem dL_sums_14 : decode cL_sums 14 = .ok (.ireturn, 1) := by decide +kernel
theorem dL_sums_15 : decode cL_sums 15 = .ok (.astore_n 3, 1) := by decide +kernel
theorem dL_sums_16 : decode cL_sums 16 = .ok (.iconst 2, 1) := by decide +kernel
theorem dL_sums_17 : decode cL_sums 17 = .ok (.ireturn, 1) := by decide +kernel
theorem dL_sums_18 : decode cL_sums 18 = .ok (.iconst 0, 1) := by decide +kernel
theorem dL_sums_19 : decode cL_sums 19 = .ok (.ireturn, 1) := by decide +kernel
theorem dL_derive_0 : decode cL_derive 0 = .ok (.aload_n 2, 1) := by decide +kernel
theorem dL_derive_1 : decode cL_derive 1 = .ok (.iconst 0, 1) := by decide +kernel
theorem dL_derive_2 : decode cL_derive 2 = .ok (.aload_n 0, 1) := by decide +kernel
theorem dL_derive_3 : decode cL_derive 3 = .ok (.iload_n 1, 1) := by decide +kernel
theorem dL_derive_4 : decode cL_derive 4 = .ok (.invokevirtual 46, 3) := by decide +kernel
theorem dL_derive_7 : decode cL_derive 7 = .ok (.i2l, 1) := by decide +kernel
theorem dL_derive_8 : decode cL_derive 8 = .ok (.lastore, 1) := by decide +kernel
theorem dL_derive_9 : decode cL_derive 9 = .ok (.goto 9, 3) := by decide +kernel
theorem dL_derive_12 : decode cL_derive 12 = .ok (.astore_n 3, 1) := by decide +kernel
theorem dL_derive_13 : decode cL_derive 13 = .ok (.iconst 1, 1) := by decide +kernel
theorem dL_derive_14 : decode cL_derive 14 = .ok (.ireturn, 1) := by decide +kernel
theorem dL_derive_15 : decode cL_derive 15 = .ok (.astore_n 3, 1) := by decide +kernel
theorem dL_derive_16 : decode cL_derive 16 = .ok (.iconst 2, 1) := by decide +kernel
theorem dL_derive_17 : decode cL_derive 17 = .ok (.ireturn, 1) := by decide +kernel
theorem dL_derive_18 : decode cL_derive 18 = .ok (.iconst 0, 1) := by decide +kernel
theorem dL_derive_19 : decode cL_derive 19 = .ok (.ireturn, 1) := by decide +kernel
theorem dL_value_0 : decode cL_value 0 = .ok (.aload_n 3, 1) := by decide +kernel
theorem dL_value_1 : decode cL_value 1 = .ok (.iconst 0, 1) := by decide +kernel
theorem dL_value_2 : decode cL_value 2 = .ok (.aload_n 0, 1) := by decide +kernel
theorem dL_value_3 : decode cL_value 3 = .ok (.iload_n 1, 1) := by decide +kernel
theorem dL_value_4 : decode cL_value 4 = .ok (.iload_n 2, 1) := by decide +kernel
theorem dL_value_5 : decode cL_value 5 = .ok (.invokevirtual 49, 3) := by decide +kernel
theorem dL_value_8 : decode cL_value 8 = .ok (.i2l, 1) := by decide +kernel
theorem dL_value_9 : decode cL_value 9 = .ok (.lastore, 1) := by decide +kernel
theorem dL_value_10 : decode cL_value 10 = .ok (.goto 7, 3) := by decide +kernel
theorem dL_value_13 : decode cL_value 13 = .ok (.astore 4, 2) := by decide +kernel
theorem dL_value_15 : decode cL_value 15 = .ok (.iconst 1, 1) := by decide +kernel
theorem dL_value_16 : decode cL_value 16 = .ok (.ireturn, 1) := by decide +kernel
theorem dL_value_17 : decode cL_value 17 = .ok (.iconst 0, 1) := by decide +kernel
theorem dL_value_18 : decode cL_value 18 = .ok (.ireturn, 1) := by decide +kernel
theorem dL_singular_0 : decode cL_singular 0 = .ok (.aload_n 2, 1) := by decide +kernel
theorem dL_singular_1 : decode cL_singular 1 = .ok (.iconst 0, 1) := by decide +kernel
theorem dL_singular_2 : decode cL_singular 2 = .ok (.aload_n 0, 1) := by decide +kernel
theorem dL_singular_3 : decode cL_singular 3 = .ok (.iload_n 1, 1) := by decide +kernel
theorem dL_singular_4 : decode cL_singular 4 = .ok (.invokevirtual 52, 3) := by decide +kernel
theorem dL_singular_7 : decode cL_singular 7 = .ok (.i2l, 1) := by decide +kernel
theorem dL_singular_8 : decode cL_singular 8 = .ok (.lastore, 1) := by decide +kernel
theorem dL_singular_9 : decode cL_singular 9 = .ok (.goto 9, 3) := by decide +kernel
theorem dL_singular_12 : decode cL_singular 12 = .ok (.astore_n 3, 1) := by decide +kernel
theorem dL_singular_13 : decode cL_singular 13 = .ok (.iconst 1, 1) := by decide +kernel
theorem dL_singular_14 : decode cL_singular 14 = .ok (.ireturn, 1) := by decide +kernel
theorem dL_singular_15 : decode cL_singular 15 = .ok (.astore_n 3, 1) := by decide +kernel
theorem dL_singular_16 : decode cL_singular 16 = .ok (.iconst 2, 1) := by decide +kernel
theorem dL_singular_17 : decode cL_singular 17 = .ok (.ireturn, 1) := by decide +kernel
theorem dL_singular_18 : decode cL_singular 18 = .ok (.iconst 0, 1) := by decide +kernel
theorem dL_singular_19 : decode cL_singular 19 = .ok (.ireturn, 1) := by decide +kernel
theorem dL_guess_0 : decode cL_guess 0 = .ok (.aload 4, 2) := by decide +kernel
theorem dL_guess_2 : decode cL_guess 2 = .ok (.iconst 0, 1) := by decide +kernel
theorem dL_guess_3 : decode cL_guess 3 = .ok (.aload_n 0, 1) := by decide +kernel
theorem dL_guess_4 : decode cL_guess 4 = .ok (.iload_n 1, 1) := by decide +kernel
theorem dL_guess_5 : decode cL_guess 5 = .ok (.iload_n 2, 1) := by decide +kernel
theorem dL_guess_6 : decode cL_guess 6 = .ok (.iload_n 3, 1) := by decide +kernel
theorem dL_guess_7 : decode cL_guess 7 = .ok (.invokevirtual 55, 3) := by decide +kernel
theorem dL_guess_10 : decode cL_guess 10 = .ok (.i2l, 1) := by decide +kernel
theorem dL_guess_11 : decode cL_guess 11 = .ok (.lastore, 1) := by decide +kernel
theorem dL_guess_12 : decode cL_guess 12 = .ok (.goto 11, 3) := by decide +kernel
theorem dL_guess_15 : decode cL_guess 15 = .ok (.astore 5, 2) := by decide +kernel
theorem dL_guess_17 : decode cL_guess 17 = .ok (.iconst 1, 1) := by decide +kernel
theorem dL_guess_18 : decode cL_guess 18 = .ok (.ireturn, 1) := by decide +kernel
theorem dL_guess_19 : decode cL_guess 19 = .ok (.astore 5, 2) := by decide +kernel
theorem dL_guess_21 : decode cL_guess 21 = .ok (.iconst 2, 1) := by decide +kernel
theorem dL_guess_22 : decode cL_guess 22 = .ok (.ireturn, 1) := by decide +kernel
theorem dL_guess_23 : decode cL_guess 23 = .ok (.iconst 0, 1) := by decide +kernel
theorem dL_guess_24 : decode cL_guess 24 = .ok (.ireturn, 1) := by decide +kernel
theorem dL_rule_0 : decode cL_rule 0 = .ok (.aload 4, 2) := by decide +kernel
theorem dL_rule_2 : decode cL_rule 2 = .ok (.iconst 0, 1) := by decide +kernel
theorem dL_rule_3 : decode cL_rule 3 = .ok (.aload_n 0, 1) := by decide +kernel
theorem dL_rule_4 : decode cL_rule 4 = .ok (.iload_n 1, 1) := by decide +kernel
theorem dL_rule_5 : decode cL_rule 5 = .ok (.iload_n 2, 1) := by decide +kernel
theorem dL_rule_6 : decode cL_rule 6 = .ok (.iload_n 3, 1) := by decide +kernel
theorem dL_rule_7 : decode cL_rule 7 = .ok (.invokevirtual 59, 3) := by decide +kernel
theorem dL_rule_10 : decode cL_rule 10 = .ok (.i2l, 1) := by decide +kernel
theorem dL_rule_11 : decode cL_rule 11 = .ok (.lastore, 1) := by decide +kernel
theorem dL_rule_12 : decode cL_rule 12 = .ok (.goto 7, 3) := by decide +kernel
theorem dL_rule_15 : decode cL_rule 15 = .ok (.astore 5, 2) := by decide +kernel
theorem dL_rule_17 : decode cL_rule 17 = .ok (.iconst 1, 1) := by decide +kernel
theorem dL_rule_18 : decode cL_rule 18 = .ok (.ireturn, 1) := by decide +kernel
theorem dL_rule_19 : decode cL_rule 19 = .ok (.iconst 0, 1) := by decide +kernel
theorem dL_rule_20 : decode cL_rule 20 = .ok (.ireturn, 1) := by decide +kernel
theorem dL_least_0 : decode cL_least 0 = .ok (.aload_n 3, 1) := by decide +kernel
theorem dL_least_1 : decode cL_least 1 = .ok (.iconst 0, 1) := by decide +kernel
theorem dL_least_2 : decode cL_least 2 = .ok (.aload_n 0, 1) := by decide +kernel
theorem dL_least_3 : decode cL_least 3 = .ok (.iload_n 1, 1) := by decide +kernel
theorem dL_least_4 : decode cL_least 4 = .ok (.iload_n 2, 1) := by decide +kernel
theorem dL_least_5 : decode cL_least 5 = .ok (.invokevirtual 62, 3) := by decide +kernel
theorem dL_least_8 : decode cL_least 8 = .ok (.i2l, 1) := by decide +kernel
theorem dL_least_9 : decode cL_least 9 = .ok (.lastore, 1) := by decide +kernel
theorem dL_least_10 : decode cL_least 10 = .ok (.goto 11, 3) := by decide +kernel
theorem dL_least_13 : decode cL_least 13 = .ok (.astore 4, 2) := by decide +kernel
theorem dL_least_15 : decode cL_least 15 = .ok (.iconst 1, 1) := by decide +kernel
theorem dL_least_16 : decode cL_least 16 = .ok (.ireturn, 1) := by decide +kernel
theorem dL_least_17 : decode cL_least 17 = .ok (.astore 4, 2) := by decide +kernel
theorem dL_least_19 : decode cL_least 19 = .ok (.iconst 2, 1) := by decide +kernel
theorem dL_least_20 : decode cL_least 20 = .ok (.ireturn, 1) := by decide +kernel
theorem dL_least_21 : decode cL_least 21 = .ok (.iconst 0, 1) := by decide +kernel
theorem dL_least_22 : decode cL_least 22 = .ok (.ireturn, 1) := by decide +kernel
theorem dL_differ_0 : decode cL_differ 0 = .ok (.aload_n 3, 1) := by decide +kernel
theorem dL_differ_1 : decode cL_differ 1 = .ok (.iconst 0, 1) := by decide +kernel
theorem dL_differ_2 : decode cL_differ 2 = .ok (.aload_n 0, 1) := by decide +kernel
theorem dL_differ_3 : decode cL_differ 3 = .ok (.iload_n 1, 1) := by decide +kernel
theorem dL_differ_4 : decode cL_differ 4 = .ok (.iload_n 2, 1) := by decide +kernel
theorem dL_differ_5 : decode cL_differ 5 = .ok (.invokevirtual 65, 3) := by decide +kernel
theorem dL_differ_8 : decode cL_differ 8 = .ok (.i2l, 1) := by decide +kernel
theorem dL_differ_9 : decode cL_differ 9 = .ok (.lastore, 1) := by decide +kernel
theorem dL_differ_10 : decode cL_differ 10 = .ok (.goto 7, 3) := by decide +kernel
theorem dL_differ_13 : decode cL_differ 13 = .ok (.astore 4, 2) := by decide +kernel
theorem dL_differ_15 : decode cL_differ 15 = .ok (.iconst 1, 1) := by decide +kernel
theorem dL_differ_16 : decode cL_differ 16 = .ok (.ireturn, 1) := by decide +kernel
theorem dL_differ_17 : decode cL_differ 17 = .ok (.iconst 0, 1) := by decide +kernel
theorem dL_differ_18 : decode cL_differ 18 = .ok (.ireturn, 1) := by decide +kernel
theorem dL_hangs_0 : decode cL_hangs 0 = .ok (.aload_n 3, 1) := by decide +kernel
theorem dL_hangs_1 : decode cL_hangs 1 = .ok (.iconst 0, 1) := by decide +kernel
theorem dL_hangs_2 : decode cL_hangs 2 = .ok (.aload_n 0, 1) := by decide +kernel
theorem dL_hangs_3 : decode cL_hangs 3 = .ok (.iload_n 1, 1) := by decide +kernel
theorem dL_hangs_4 : decode cL_hangs 4 = .ok (.iload_n 2, 1) := by decide +kernel
theorem dL_hangs_5 : decode cL_hangs 5 = .ok (.invokevirtual 68, 3) := by decide +kernel
theorem dL_hangs_8 : decode cL_hangs 8 = .ok (.ifCond .eq 7, 3) := by decide +kernel
theorem dL_hangs_11 : decode cL_hangs 11 = .ok (.lconst 1, 1) := by decide +kernel
theorem dL_hangs_12 : decode cL_hangs 12 = .ok (.goto 4, 3) := by decide +kernel
theorem dL_hangs_15 : decode cL_hangs 15 = .ok (.lconst 0, 1) := by decide +kernel
theorem dL_hangs_16 : decode cL_hangs 16 = .ok (.lastore, 1) := by decide +kernel
theorem dL_hangs_17 : decode cL_hangs 17 = .ok (.goto 7, 3) := by decide +kernel
theorem dL_hangs_20 : decode cL_hangs 20 = .ok (.astore 4, 2) := by decide +kernel
theorem dL_hangs_22 : decode cL_hangs 22 = .ok (.iconst 1, 1) := by decide +kernel
theorem dL_hangs_23 : decode cL_hangs 23 = .ok (.ireturn, 1) := by decide +kernel
theorem dL_hangs_24 : decode cL_hangs 24 = .ok (.iconst 0, 1) := by decide +kernel
theorem dL_hangs_25 : decode cL_hangs 25 = .ok (.ireturn, 1) := by decide +kernel
