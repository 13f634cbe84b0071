/-! Decoded. -/
theorem dX_freshNumbers_15 : decode cX_freshNumbers 15 = .ok (.aload_n 3, 1) := by decide +kernel
theorem dX_freshNumbers_16 : decode cX_freshNumbers 16 = .ok (.ifnull 22, 3) := by decide +kernel
theorem dX_freshNumbers_19 : decode cX_freshNumbers 19 = .ok (.aload_n 3, 1) := by decide +kernel
theorem dX_freshNumbers_20 : decode cX_freshNumbers 20 = .ok (.getfield 166, 3) := by decide +kernel
theorem dX_freshNumbers_23 : decode cX_freshNumbers 23 = .ok (.ifCond .ne 15, 3) := by decide +kernel
theorem dX_freshNumbers_26 : decode cX_freshNumbers 26 = .ok (.aload_n 1, 1) := by decide +kernel
theorem dX_freshNumbers_27 : decode cX_freshNumbers 27 = .ok (.iload_n 2, 1) := by decide +kernel
theorem dX_freshNumbers_28 : decode cX_freshNumbers 28 = .ok (.invokevirtual 143, 3) := by decide +kernel
theorem dX_freshNumbers_31 : decode cX_freshNumbers 31 = .ok (.ifCond .eq 7, 3) := by decide +kernel
theorem dX_freshNumbers_34 : decode cX_freshNumbers 34 = .ok (.aload_n 3, 1) := by decide +kernel
theorem dX_freshNumbers_35 : decode cX_freshNumbers 35 = .ok (.invokevirtual 170, 3) := by decide +kernel
theorem dX_freshNumbers_38 : decode cX_freshNumbers 38 = .ok (.iinc 2 1, 3) := by decide +kernel
theorem dX_freshNumbers_41 : decode cX_freshNumbers 41 = .ok (.goto (-39), 3) := by decide +kernel
theorem dX_freshNumbers_44 : decode cX_freshNumbers 44 = .ok (.aload_n 1, 1) := by decide +kernel
theorem dX_freshNumbers_45 : decode cX_freshNumbers 45 = .ok (.getfield 173, 3) := by decide +kernel
theorem dX_freshNumbers_48 : decode cX_freshNumbers 48 = .ok (.areturn, 1) := by decide +kernel
theorem dX_reduce_0 : decode cX_reduce 0 = .ok (.lload_n 0, 1) := by decide +kernel
theorem dX_reduce_1 : decode cX_reduce 1 = .ok (.ldc2_w 176, 3) := by decide +kernel
theorem dX_reduce_4 : decode cX_reduce 4 = .ok (.lrem, 1) := by decide +kernel
theorem dX_reduce_5 : decode cX_reduce 5 = .ok (.l2i, 1) := by decide +kernel
theorem dX_reduce_6 : decode cX_reduce 6 = .ok (.istore_n 2, 1) := by decide +kernel
theorem dX_reduce_7 : decode cX_reduce 7 = .ok (.iload_n 2, 1) := by decide +kernel
theorem dX_reduce_8 : decode cX_reduce 8 = .ok (.ifCond .ge 11, 3) := by decide +kernel
theorem dX_reduce_11 : decode cX_reduce 11 = .ok (.iload_n 2, 1) := by decide +kernel
theorem dX_reduce_12 : decode cX_reduce 12 = .ok (.sipush 32003, 3) := by decide +kernel
theorem dX_reduce_15 : decode cX_reduce 15 = .ok (.iadd, 1) := by decide +kernel
theorem dX_reduce_16 : decode cX_reduce 16 = .ok (.goto 4, 3) := by decide +kernel
theorem dX_reduce_19 : decode cX_reduce 19 = .ok (.iload_n 2, 1) := by decide +kernel
theorem dX_reduce_20 : decode cX_reduce 20 = .ok (.ireturn, 1) := by decide +kernel
theorem dX_product_0 : decode cX_product 0 = .ok (.iload_n 0, 1) := by decide +kernel
theorem dX_product_1 : decode cX_product 1 = .ok (.i2l, 1) := by decide +kernel
theorem dX_product_2 : decode cX_product 2 = .ok (.iload_n 1, 1) := by decide +kernel
theorem dX_product_3 : decode cX_product 3 = .ok (.i2l, 1) := by decide +kernel
theorem dX_product_4 : decode cX_product 4 = .ok (.lmul, 1) := by decide +kernel
theorem dX_product_5 : decode cX_product 5 = .ok (.ldc2_w 176, 3) := by decide +kernel
theorem dX_product_8 : decode cX_product 8 = .ok (.lrem, 1) := by decide +kernel
theorem dX_product_9 : decode cX_product 9 = .ok (.l2i, 1) := by decide +kernel
theorem dX_product_10 : decode cX_product 10 = .ok (.ireturn, 1) := by decide +kernel
theorem dX_inverse_0 : decode cX_inverse 0 = .ok (.iconst 1, 1) := by decide +kernel
theorem dX_inverse_1 : decode cX_inverse 1 = .ok (.istore_n 1, 1) := by decide +kernel
theorem dX_inverse_2 : decode cX_inverse 2 = .ok (.iload_n 0, 1) := by decide +kernel
theorem dX_inverse_3 : decode cX_inverse 3 = .ok (.istore_n 2, 1) := by decide +kernel
theorem dX_inverse_4 : decode cX_inverse 4 = .ok (.sipush 32001, 3) := by decide +kernel
theorem dX_inverse_7 : decode cX_inverse 7 = .ok (.istore_n 3, 1) := by decide +kernel
theorem dX_inverse_8 : decode cX_inverse 8 = .ok (.iload_n 3, 1) := by decide +kernel
theorem dX_inverse_9 : decode cX_inverse 9 = .ok (.ifCond .le 29, 3) := by decide +kernel
theorem dX_inverse_12 : decode cX_inverse 12 = .ok (.iload_n 3, 1) := by decide +kernel
theorem dX_inverse_13 : decode cX_inverse 13 = .ok (.iconst 1, 1) := by decide +kernel
theorem dX_inverse_14 : decode cX_inverse 14 = .ok (.iand, 1) := by decide +kernel
theorem dX_inverse_15 : decode cX_inverse 15 = .ok (.iconst 1, 1) := by decide +kernel
theorem dX_inverse_16 : decode cX_inverse 16 = .ok (.if_icmp .ne 9, 3) := by decide +kernel
theorem dX_inverse_19 : decode cX_inverse 19 = .ok (.iload_n 1, 1) := by decide +kernel
theorem dX_inverse_20 : decode cX_inverse 20 = .ok (.iload_n 2, 1) := by decide +kernel
theorem dX_inverse_21 : decode cX_inverse 21 = .ok (.invokestatic 178, 3) := by decide +kernel
theorem dX_inverse_24 : decode cX_inverse 24 = .ok (.istore_n 1, 1) := by decide +kernel
theorem dX_inverse_25 : decode cX_inverse 25 = .ok (.iload_n 2, 1) := by decide +kernel
theorem dX_inverse_26 : decode cX_inverse 26 = .ok (.iload_n 2, 1) := by decide +kernel
theorem dX_inverse_27 : decode cX_inverse 27 = .ok (.invokestatic 178, 3) := by decide +kernel
theorem dX_inverse_30 : decode cX_inverse 30 = .ok (.istore_n 2, 1) := by decide +kernel
theorem dX_inverse_31 : decode cX_inverse 31 = .ok (.iload_n 3, 1) := by decide +kernel
theorem dX_inverse_32 : decode cX_inverse 32 = .ok (.iconst 1, 1) := by decide +kernel
theorem dX_inverse_33 : decode cX_inverse 33 = .ok (.ishr, 1) := by decide +kernel
theorem dX_inverse_34 : decode cX_inverse 34 = .ok (.istore_n 3, 1) := by decide +kernel
theorem dX_inverse_35 : decode cX_inverse 35 = .ok (.goto (-27), 3) := by decide +kernel
theorem dX_inverse_38 : decode cX_inverse 38 = .ok (.iload_n 1, 1) := by decide +kernel
theorem dX_inverse_39 : decode cX_inverse 39 = .ok (.ireturn, 1) := by decide +kernel
