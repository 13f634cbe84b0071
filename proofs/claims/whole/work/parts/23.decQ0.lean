/-! Decoded. -/
theorem dQ_init_0 : decode cQ_init 0 = .ok (.aload_n 0, 1) := by decide +kernel
theorem dQ_init_1 : decode cQ_init 1 = .ok (.invokespecial 3, 3) := by decide +kernel
theorem dQ_init_4 : decode cQ_init 4 = .ok (.aload_n 0, 1) := by decide +kernel
theorem dQ_init_5 : decode cQ_init 5 = .ok (.bipush 64, 2) := by decide +kernel
theorem dQ_init_7 : decode cQ_init 7 = .ok (.newarray .int, 2) := by decide +kernel
theorem dQ_init_9 : decode cQ_init 9 = .ok (.putfield 9, 3) := by decide +kernel
theorem dQ_init_12 : decode cQ_init 12 = .ok (.aload_n 0, 1) := by decide +kernel
theorem dQ_init_13 : decode cQ_init 13 = .ok (.lload_n 2, 1) := by decide +kernel
theorem dQ_init_14 : decode cQ_init 14 = .ok (.lconst 1, 1) := by decide +kernel
theorem dQ_init_15 : decode cQ_init 15 = .ok (.iload_n 1, 1) := by decide +kernel
theorem dQ_init_16 : decode cQ_init 16 = .ok (.lshl, 1) := by decide +kernel
theorem dQ_init_17 : decode cQ_init 17 = .ok (.lor, 1) := by decide +kernel
theorem dQ_init_18 : decode cQ_init 18 = .ok (.putfield 15, 3) := by decide +kernel
theorem dQ_init_21 : decode cQ_init 21 = .ok (.return_, 1) := by decide +kernel
theorem dQ_refresh_0 : decode cQ_refresh 0 = .ok (.iconst 0, 1) := by decide +kernel
theorem dQ_refresh_1 : decode cQ_refresh 1 = .ok (.istore_n 1, 1) := by decide +kernel
theorem dQ_refresh_2 : decode cQ_refresh 2 = .ok (.iload_n 1, 1) := by decide +kernel
theorem dQ_refresh_3 : decode cQ_refresh 3 = .ok (.bipush 64, 2) := by decide +kernel
theorem dQ_refresh_5 : decode cQ_refresh 5 = .ok (.if_icmp .ge 20, 3) := by decide +kernel
theorem dQ_refresh_8 : decode cQ_refresh 8 = .ok (.aload_n 0, 1) := by decide +kernel
theorem dQ_refresh_9 : decode cQ_refresh 9 = .ok (.getfield 9, 3) := by decide +kernel
theorem dQ_refresh_12 : decode cQ_refresh 12 = .ok (.iload_n 1, 1) := by decide +kernel
theorem dQ_refresh_13 : decode cQ_refresh 13 = .ok (.aload_n 0, 1) := by decide +kernel
theorem dQ_refresh_14 : decode cQ_refresh 14 = .ok (.iload_n 1, 1) := by decide +kernel
theorem dQ_refresh_15 : decode cQ_refresh 15 = .ok (.invokevirtual 19, 3) := by decide +kernel
theorem dQ_refresh_18 : decode cQ_refresh 18 = .ok (.iastore, 1) := by decide +kernel
theorem dQ_refresh_19 : decode cQ_refresh 19 = .ok (.iinc 1 1, 3) := by decide +kernel
theorem dQ_refresh_22 : decode cQ_refresh 22 = .ok (.goto (-20), 3) := by decide +kernel
theorem dQ_refresh_25 : decode cQ_refresh 25 = .ok (.aload_n 0, 1) := by decide +kernel
theorem dQ_refresh_26 : decode cQ_refresh 26 = .ok (.iconst 1, 1) := by decide +kernel
theorem dQ_refresh_27 : decode cQ_refresh 27 = .ok (.putfield 23, 3) := by decide +kernel
theorem dQ_refresh_30 : decode cQ_refresh 30 = .ok (.return_, 1) := by decide +kernel
theorem dQ_isMadeOf_0 : decode cQ_isMadeOf 0 = .ok (.aload_n 0, 1) := by decide +kernel
theorem dQ_isMadeOf_1 : decode cQ_isMadeOf 1 = .ok (.getfield 15, 3) := by decide +kernel
theorem dQ_isMadeOf_4 : decode cQ_isMadeOf 4 = .ok (.iload_n 1, 1) := by decide +kernel
theorem dQ_isMadeOf_5 : decode cQ_isMadeOf 5 = .ok (.lshr, 1) := by decide +kernel
theorem dQ_isMadeOf_6 : decode cQ_isMadeOf 6 = .ok (.lconst 1, 1) := by decide +kernel
theorem dQ_isMadeOf_7 : decode cQ_isMadeOf 7 = .ok (.land, 1) := by decide +kernel
theorem dQ_isMadeOf_8 : decode cQ_isMadeOf 8 = .ok (.lconst 1, 1) := by decide +kernel
theorem dQ_isMadeOf_9 : decode cQ_isMadeOf 9 = .ok (.lcmp, 1) := by decide +kernel
theorem dQ_isMadeOf_10 : decode cQ_isMadeOf 10 = .ok (.ifCond .ne 7, 3) := by decide +kernel
theorem dQ_isMadeOf_13 : decode cQ_isMadeOf 13 = .ok (.iconst 1, 1) := by decide +kernel
theorem dQ_isMadeOf_14 : decode cQ_isMadeOf 14 = .ok (.goto 4, 3) := by decide +kernel
theorem dQ_isMadeOf_17 : decode cQ_isMadeOf 17 = .ok (.iconst 0, 1) := by decide +kernel
theorem dQ_isMadeOf_18 : decode cQ_isMadeOf 18 = .ok (.ireturn, 1) := by decide +kernel
