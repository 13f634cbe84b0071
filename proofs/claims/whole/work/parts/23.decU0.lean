/-! Decoded. -/
theorem dU_init_0 : decode cU_init 0 = .ok (.aload_n 0, 1) := by decide +kernel
theorem dU_init_1 : decode cU_init 1 = .ok (.invokespecial 3, 3) := by decide +kernel
theorem dU_init_4 : decode cU_init 4 = .ok (.aload_n 0, 1) := by decide +kernel
theorem dU_init_5 : decode cU_init 5 = .ok (.bipush 20, 2) := by decide +kernel
theorem dU_init_7 : decode cU_init 7 = .ok (.bipush 20, 2) := by decide +kernel
theorem dU_init_9 : decode cU_init 9 = .ok (.multianewarray 9 2, 4) := by decide +kernel
theorem dU_init_13 : decode cU_init 13 = .ok (.putfield 11, 3) := by decide +kernel
theorem dU_init_16 : decode cU_init 16 = .ok (.aload_n 0, 1) := by decide +kernel
theorem dU_init_17 : decode cU_init 17 = .ok (.bipush 20, 2) := by decide +kernel
theorem dU_init_19 : decode cU_init 19 = .ok (.newarray .boolean, 2) := by decide +kernel
theorem dU_init_21 : decode cU_init 21 = .ok (.putfield 16, 3) := by decide +kernel
theorem dU_init_24 : decode cU_init 24 = .ok (.aload_n 0, 1) := by decide +kernel
theorem dU_init_25 : decode cU_init 25 = .ok (.bipush 20, 2) := by decide +kernel
theorem dU_init_27 : decode cU_init 27 = .ok (.newarray .int, 2) := by decide +kernel
theorem dU_init_29 : decode cU_init 29 = .ok (.putfield 20, 3) := by decide +kernel
theorem dU_init_32 : decode cU_init 32 = .ok (.aload_n 0, 1) := by decide +kernel
theorem dU_init_33 : decode cU_init 33 = .ok (.bipush 20, 2) := by decide +kernel
theorem dU_init_35 : decode cU_init 35 = .ok (.newarray .int, 2) := by decide +kernel
theorem dU_init_37 : decode cU_init 37 = .ok (.putfield 24, 3) := by decide +kernel
theorem dU_init_40 : decode cU_init 40 = .ok (.return_, 1) := by decide +kernel
theorem dU_find_0 : decode cU_find 0 = .ok (.aload_n 0, 1) := by decide +kernel
theorem dU_find_1 : decode cU_find 1 = .ok (.iload_n 2, 1) := by decide +kernel
theorem dU_find_2 : decode cU_find 2 = .ok (.putfield 27, 3) := by decide +kernel
theorem dU_find_5 : decode cU_find 5 = .ok (.aload_n 0, 1) := by decide +kernel
theorem dU_find_6 : decode cU_find 6 = .ok (.iload_n 3, 1) := by decide +kernel
theorem dU_find_7 : decode cU_find 7 = .ok (.putfield 31, 3) := by decide +kernel
theorem dU_find_10 : decode cU_find 10 = .ok (.aload_n 0, 1) := by decide +kernel
theorem dU_find_11 : decode cU_find 11 = .ok (.aload_n 0, 1) := by decide +kernel
theorem dU_find_12 : decode cU_find 12 = .ok (.getfield 27, 3) := by decide +kernel
theorem dU_find_15 : decode cU_find 15 = .ok (.iconst 1, 1) := by decide +kernel
theorem dU_find_16 : decode cU_find 16 = .ok (.iadd, 1) := by decide +kernel
theorem dU_find_17 : decode cU_find 17 = .ok (.aload_n 0, 1) := by decide +kernel
theorem dU_find_18 : decode cU_find 18 = .ok (.getfield 31, 3) := by decide +kernel
theorem dU_find_21 : decode cU_find 21 = .ok (.iconst 1, 1) := by decide +kernel
theorem dU_find_22 : decode cU_find 22 = .ok (.iadd, 1) := by decide +kernel
theorem dU_find_23 : decode cU_find 23 = .ok (.imul, 1) := by decide +kernel
theorem dU_find_24 : decode cU_find 24 = .ok (.putfield 34, 3) := by decide +kernel
theorem dU_find_27 : decode cU_find 27 = .ok (.aload_n 0, 1) := by decide +kernel
theorem dU_find_28 : decode cU_find 28 = .ok (.aload_n 0, 1) := by decide +kernel
theorem dU_find_29 : decode cU_find 29 = .ok (.getfield 34, 3) := by decide +kernel
theorem dU_find_32 : decode cU_find 32 = .ok (.putfield 37, 3) := by decide +kernel
theorem dU_find_35 : decode cU_find 35 = .ok (.iconst 0, 1) := by decide +kernel
theorem dU_find_36 : decode cU_find 36 = .ok (.istore 4, 2) := by decide +kernel
theorem dU_find_38 : decode cU_find 38 = .ok (.iload 4, 2) := by decide +kernel
theorem dU_find_40 : decode cU_find 40 = .ok (.aload_n 0, 1) := by decide +kernel
theorem dU_find_41 : decode cU_find 41 = .ok (.getfield 34, 3) := by decide +kernel
theorem dU_find_44 : decode cU_find 44 = .ok (.if_icmp .ge 17, 3) := by decide +kernel
theorem dU_find_47 : decode cU_find 47 = .ok (.aload_n 0, 1) := by decide +kernel
theorem dU_find_48 : decode cU_find 48 = .ok (.getfield 16, 3) := by decide +kernel
theorem dU_find_51 : decode cU_find 51 = .ok (.iload 4, 2) := by decide +kernel
theorem dU_find_53 : decode cU_find 53 = .ok (.iconst 0, 1) := by decide +kernel
theorem dU_find_54 : decode cU_find 54 = .ok (.bastore, 1) := by decide +kernel
theorem dU_find_55 : decode cU_find 55 = .ok (.iinc 4 1, 3) := by decide +kernel
theorem dU_find_58 : decode cU_find 58 = .ok (.goto (-20), 3) := by decide +kernel
theorem dU_find_61 : decode cU_find 61 = .ok (.iconst 0, 1) := by decide +kernel
theorem dU_find_62 : decode cU_find 62 = .ok (.istore 4, 2) := by decide +kernel
theorem dU_find_64 : decode cU_find 64 = .ok (.iload 4, 2) := by decide +kernel
theorem dU_find_66 : decode cU_find 66 = .ok (.bipush 64, 2) := by decide +kernel
theorem dU_find_68 : decode cU_find 68 = .ok (.aload_n 0, 1) := by decide +kernel
theorem dU_find_69 : decode cU_find 69 = .ok (.getfield 27, 3) := by decide +kernel
theorem dU_find_72 : decode cU_find 72 = .ok (.isub, 1) := by decide +kernel
theorem dU_find_73 : decode cU_find 73 = .ok (.if_icmp .ge 27, 3) := by decide +kernel
theorem dU_find_76 : decode cU_find 76 = .ok (.aload_n 0, 1) := by decide +kernel
theorem dU_find_77 : decode cU_find 77 = .ok (.getfield 37, 3) := by decide +kernel
theorem dU_find_80 : decode cU_find 80 = .ok (.ifCond .le 20, 3) := by decide +kernel
theorem dU_find_83 : decode cU_find 83 = .ok (.aload_n 0, 1) := by decide +kernel
theorem dU_find_84 : decode cU_find 84 = .ok (.aload_n 1, 1) := by decide +kernel
theorem dU_find_85 : decode cU_find 85 = .ok (.iload 4, 2) := by decide +kernel
theorem dU_find_87 : decode cU_find 87 = .ok (.invokevirtual 40, 3) := by decide +kernel
theorem dU_find_90 : decode cU_find 90 = .ok (.aload_n 0, 1) := by decide +kernel
theorem dU_find_91 : decode cU_find 91 = .ok (.invokevirtual 44, 3) := by decide +kernel
theorem dU_find_94 : decode cU_find 94 = .ok (.iinc 4 1, 3) := by decide +kernel
theorem dU_find_97 : decode cU_find 97 = .ok (.goto (-33), 3) := by decide +kernel
theorem dU_find_100 : decode cU_find 100 = .ok (.aload_n 0, 1) := by decide +kernel
theorem dU_find_101 : decode cU_find 101 = .ok (.invokevirtual 47, 3) := by decide +kernel
theorem dU_find_104 : decode cU_find 104 = .ok (.aload_n 0, 1) := by decide +kernel
theorem dU_find_105 : decode cU_find 105 = .ok (.invokevirtual 50, 3) := by decide +kernel
theorem dU_find_108 : decode cU_find 108 = .ok (.aload_n 0, 1) := by decide +kernel
theorem dU_find_109 : decode cU_find 109 = .ok (.getfield 37, 3) := by decide +kernel
theorem dU_find_112 : decode cU_find 112 = .ok (.ireturn, 1) := by decide +kernel
theorem dU_numberOf_0 : decode cU_numberOf 0 = .ok (.iload_n 2, 1) := by decide +kernel
theorem dU_numberOf_1 : decode cU_numberOf 1 = .ok (.ifCond .lt 23, 3) := by decide +kernel
theorem dU_numberOf_4 : decode cU_numberOf 4 = .ok (.iload_n 2, 1) := by decide +kernel
theorem dU_numberOf_5 : decode cU_numberOf 5 = .ok (.aload_n 0, 1) := by decide +kernel
theorem dU_numberOf_6 : decode cU_numberOf 6 = .ok (.getfield 27, 3) := by decide +kernel
theorem dU_numberOf_9 : decode cU_numberOf 9 = .ok (.if_icmp .gt 15, 3) := by decide +kernel
theorem dU_numberOf_12 : decode cU_numberOf 12 = .ok (.iload_n 3, 1) := by decide +kernel
theorem dU_numberOf_13 : decode cU_numberOf 13 = .ok (.ifCond .lt 11, 3) := by decide +kernel
theorem dU_numberOf_16 : decode cU_numberOf 16 = .ok (.iload_n 3, 1) := by decide +kernel
theorem dU_numberOf_17 : decode cU_numberOf 17 = .ok (.aload_n 0, 1) := by decide +kernel
theorem dU_numberOf_18 : decode cU_numberOf 18 = .ok (.getfield 31, 3) := by decide +kernel
theorem dU_numberOf_21 : decode cU_numberOf 21 = .ok (.if_icmp .le 5, 3) := by decide +kernel
theorem dU_numberOf_24 : decode cU_numberOf 24 = .ok (.iconst 0, 1) := by decide +kernel
theorem dU_numberOf_25 : decode cU_numberOf 25 = .ok (.ireturn, 1) := by decide +kernel
theorem dU_numberOf_26 : decode cU_numberOf 26 = .ok (.iload_n 2, 1) := by decide +kernel
theorem dU_numberOf_27 : decode cU_numberOf 27 = .ok (.aload_n 0, 1) := by decide +kernel
theorem dU_numberOf_28 : decode cU_numberOf 28 = .ok (.getfield 31, 3) := by decide +kernel
theorem dU_numberOf_31 : decode cU_numberOf 31 = .ok (.iconst 1, 1) := by decide +kernel
theorem dU_numberOf_32 : decode cU_numberOf 32 = .ok (.iadd, 1) := by decide +kernel
theorem dU_numberOf_33 : decode cU_numberOf 33 = .ok (.imul, 1) := by decide +kernel
theorem dU_numberOf_34 : decode cU_numberOf 34 = .ok (.iload_n 3, 1) := by decide +kernel
theorem dU_numberOf_35 : decode cU_numberOf 35 = .ok (.iadd, 1) := by decide +kernel
theorem dU_numberOf_36 : decode cU_numberOf 36 = .ok (.istore 4, 2) := by decide +kernel
theorem dU_numberOf_38 : decode cU_numberOf 38 = .ok (.aload_n 0, 1) := by decide +kernel
theorem dU_numberOf_39 : decode cU_numberOf 39 = .ok (.getfield 24, 3) := by decide +kernel
theorem dU_numberOf_42 : decode cU_numberOf 42 = .ok (.iload_n 1, 1) := by decide +kernel
theorem dU_numberOf_43 : decode cU_numberOf 43 = .ok (.iaload, 1) := by decide +kernel
theorem dU_numberOf_44 : decode cU_numberOf 44 = .ok (.istore 5, 2) := by decide +kernel
theorem dU_numberOf_46 : decode cU_numberOf 46 = .ok (.iload 4, 2) := by decide +kernel
theorem dU_numberOf_48 : decode cU_numberOf 48 = .ok (.iload 5, 2) := by decide +kernel
theorem dU_numberOf_50 : decode cU_numberOf 50 = .ok (.if_icmp .ne 5, 3) := by decide +kernel
theorem dU_numberOf_53 : decode cU_numberOf 53 = .ok (.iconst 1, 1) := by decide +kernel
theorem dU_numberOf_54 : decode cU_numberOf 54 = .ok (.ireturn, 1) := by decide +kernel
theorem dU_numberOf_55 : decode cU_numberOf 55 = .ok (.iload 4, 2) := by decide +kernel
theorem dU_numberOf_57 : decode cU_numberOf 57 = .ok (.iload 5, 2) := by decide +kernel
theorem dU_numberOf_59 : decode cU_numberOf 59 = .ok (.if_icmp .ge 31, 3) := by decide +kernel
theorem dU_numberOf_62 : decode cU_numberOf 62 = .ok (.aload_n 0, 1) := by decide +kernel
theorem dU_numberOf_63 : decode cU_numberOf 63 = .ok (.getfield 16, 3) := by decide +kernel
theorem dU_numberOf_66 : decode cU_numberOf 66 = .ok (.iload 4, 2) := by decide +kernel
theorem dU_numberOf_68 : decode cU_numberOf 68 = .ok (.baload, 1) := by decide +kernel
theorem dU_numberOf_69 : decode cU_numberOf 69 = .ok (.ifCond .eq 21, 3) := by decide +kernel
theorem dU_numberOf_72 : decode cU_numberOf 72 = .ok (.aload_n 0, 1) := by decide +kernel
theorem dU_numberOf_73 : decode cU_numberOf 73 = .ok (.getfield 11, 3) := by decide +kernel
theorem dU_numberOf_76 : decode cU_numberOf 76 = .ok (.iload 4, 2) := by decide +kernel
theorem dU_numberOf_78 : decode cU_numberOf 78 = .ok (.aaload, 1) := by decide +kernel
theorem dU_numberOf_79 : decode cU_numberOf 79 = .ok (.iload 5, 2) := by decide +kernel
theorem dU_numberOf_81 : decode cU_numberOf 81 = .ok (.iaload, 1) := by decide +kernel
theorem dU_numberOf_82 : decode cU_numberOf 82 = .ok (.ineg, 1) := by decide +kernel
theorem dU_numberOf_83 : decode cU_numberOf 83 = .ok (.i2l, 1) := by decide +kernel
theorem dU_numberOf_84 : decode cU_numberOf 84 = .ok (.invokestatic 53, 3) := by decide +kernel
theorem dU_numberOf_87 : decode cU_numberOf 87 = .ok (.goto 4, 3) := by decide +kernel
theorem dU_numberOf_90 : decode cU_numberOf 90 = .ok (.iconst 0, 1) := by decide +kernel
theorem dU_numberOf_91 : decode cU_numberOf 91 = .ok (.ireturn, 1) := by decide +kernel
theorem dU_writeEquation_0 : decode cU_writeEquation 0 = .ok (.iconst 0, 1) := by decide +kernel
theorem dU_writeEquation_1 : decode cU_writeEquation 1 = .ok (.istore_n 3, 1) := by decide +kernel
theorem dU_writeEquation_2 : decode cU_writeEquation 2 = .ok (.iconst 0, 1) := by decide +kernel
theorem dU_writeEquation_3 : decode cU_writeEquation 3 = .ok (.istore 4, 2) := by decide +kernel
theorem dU_writeEquation_5 : decode cU_writeEquation 5 = .ok (.iload 4, 2) := by decide +kernel
theorem dU_writeEquation_7 : decode cU_writeEquation 7 = .ok (.aload_n 0, 1) := by decide +kernel
theorem dU_writeEquation_8 : decode cU_writeEquation 8 = .ok (.getfield 27, 3) := by decide +kernel
theorem dU_writeEquation_11 : decode cU_writeEquation 11 = .ok (.if_icmp .gt 54, 3) := by decide +kernel
theorem dU_writeEquation_14 : decode cU_writeEquation 14 = .ok (.aload_n 1, 1) := by decide +kernel
theorem dU_writeEquation_15 : decode cU_writeEquation 15 = .ok (.iload_n 2, 1) := by decide +kernel
theorem dU_writeEquation_16 : decode cU_writeEquation 16 = .ok (.iload 4, 2) := by decide +kernel
theorem dU_writeEquation_18 : decode cU_writeEquation 18 = .ok (.iadd, 1) := by decide +kernel
theorem dU_writeEquation_19 : decode cU_writeEquation 19 = .ok (.iaload, 1) := by decide +kernel
theorem dU_writeEquation_20 : decode cU_writeEquation 20 = .ok (.istore 5, 2) := by decide +kernel
theorem dU_writeEquation_22 : decode cU_writeEquation 22 = .ok (.iconst 0, 1) := by decide +kernel
theorem dU_writeEquation_23 : decode cU_writeEquation 23 = .ok (.istore 6, 2) := by decide +kernel
theorem dU_writeEquation_25 : decode cU_writeEquation 25 = .ok (.iload 6, 2) := by decide +kernel
theorem dU_writeEquation_27 : decode cU_writeEquation 27 = .ok (.aload_n 0, 1) := by decide +kernel
theorem dU_writeEquation_28 : decode cU_writeEquation 28 = .ok (.getfield 31, 3) := by decide +kernel
theorem dU_writeEquation_31 : decode cU_writeEquation 31 = .ok (.if_icmp .gt 28, 3) := by decide +kernel
theorem dU_writeEquation_34 : decode cU_writeEquation 34 = .ok (.aload_n 0, 1) := by decide +kernel
theorem dU_writeEquation_35 : decode cU_writeEquation 35 = .ok (.getfield 20, 3) := by decide +kernel
theorem dU_writeEquation_38 : decode cU_writeEquation 38 = .ok (.iload_n 3, 1) := by decide +kernel
theorem dU_writeEquation_39 : decode cU_writeEquation 39 = .ok (.iload 5, 2) := by decide +kernel
theorem dU_writeEquation_41 : decode cU_writeEquation 41 = .ok (.iastore, 1) := by decide +kernel
theorem dU_writeEquation_42 : decode cU_writeEquation 42 = .ok (.iload 5, 2) := by decide +kernel
theorem dU_writeEquation_44 : decode cU_writeEquation 44 = .ok (.iload_n 2, 1) := by decide +kernel
theorem dU_writeEquation_45 : decode cU_writeEquation 45 = .ok (.invokestatic 57, 3) := by decide +kernel
theorem dU_writeEquation_48 : decode cU_writeEquation 48 = .ok (.istore 5, 2) := by decide +kernel
theorem dU_writeEquation_50 : decode cU_writeEquation 50 = .ok (.iinc 3 1, 3) := by decide +kernel
theorem dU_writeEquation_53 : decode cU_writeEquation 53 = .ok (.iinc 6 1, 3) := by decide +kernel
theorem dU_writeEquation_56 : decode cU_writeEquation 56 = .ok (.goto (-31), 3) := by decide +kernel
theorem dU_writeEquation_59 : decode cU_writeEquation 59 = .ok (.iinc 4 1, 3) := by decide +kernel
theorem dU_writeEquation_62 : decode cU_writeEquation 62 = .ok (.goto (-57), 3) := by decide +kernel
theorem dU_writeEquation_65 : decode cU_writeEquation 65 = .ok (.return_, 1) := by decide +kernel
theorem dU_takeEquation_0 : decode cU_takeEquation 0 = .ok (.iconst 0, 1) := by decide +kernel
theorem dU_takeEquation_1 : decode cU_takeEquation 1 = .ok (.istore_n 1, 1) := by decide +kernel
theorem dU_takeEquation_2 : decode cU_takeEquation 2 = .ok (.iload_n 1, 1) := by decide +kernel
theorem dU_takeEquation_3 : decode cU_takeEquation 3 = .ok (.aload_n 0, 1) := by decide +kernel
theorem dU_takeEquation_4 : decode cU_takeEquation 4 = .ok (.getfield 34, 3) := by decide +kernel
theorem dU_takeEquation_7 : decode cU_takeEquation 7 = .ok (.if_icmp .ge 57, 3) := by decide +kernel
theorem dU_takeEquation_10 : decode cU_takeEquation 10 = .ok (.aload_n 0, 1) := by decide +kernel
theorem dU_takeEquation_11 : decode cU_takeEquation 11 = .ok (.getfield 20, 3) := by decide +kernel
theorem dU_takeEquation_14 : decode cU_takeEquation 14 = .ok (.iload_n 1, 1) := by decide +kernel
theorem dU_takeEquation_15 : decode cU_takeEquation 15 = .ok (.iaload, 1) := by decide +kernel
theorem dU_takeEquation_16 : decode cU_takeEquation 16 = .ok (.ifCond .eq 18, 3) := by decide +kernel
theorem dU_takeEquation_19 : decode cU_takeEquation 19 = .ok (.aload_n 0, 1) := by decide +kernel
theorem dU_takeEquation_20 : decode cU_takeEquation 20 = .ok (.getfield 16, 3) := by decide +kernel
theorem dU_takeEquation_23 : decode cU_takeEquation 23 = .ok (.iload_n 1, 1) := by decide +kernel
theorem dU_takeEquation_24 : decode cU_takeEquation 24 = .ok (.baload, 1) := by decide +kernel
theorem dU_takeEquation_25 : decode cU_takeEquation 25 = .ok (.ifCond .ne 9, 3) := by decide +kernel
theorem dU_takeEquation_28 : decode cU_takeEquation 28 = .ok (.aload_n 0, 1) := by decide +kernel
theorem dU_takeEquation_29 : decode cU_takeEquation 29 = .ok (.iload_n 1, 1) := by decide +kernel
theorem dU_takeEquation_30 : decode cU_takeEquation 30 = .ok (.invokevirtual 61, 3) := by decide +kernel
theorem dU_takeEquation_33 : decode cU_takeEquation 33 = .ok (.return_, 1) := by decide +kernel
theorem dU_takeEquation_34 : decode cU_takeEquation 34 = .ok (.aload_n 0, 1) := by decide +kernel
theorem dU_takeEquation_35 : decode cU_takeEquation 35 = .ok (.getfield 20, 3) := by decide +kernel
theorem dU_takeEquation_38 : decode cU_takeEquation 38 = .ok (.iload_n 1, 1) := by decide +kernel
theorem dU_takeEquation_39 : decode cU_takeEquation 39 = .ok (.iaload, 1) := by decide +kernel
theorem dU_takeEquation_40 : decode cU_takeEquation 40 = .ok (.ifCond .eq 18, 3) := by decide +kernel
theorem dU_takeEquation_43 : decode cU_takeEquation 43 = .ok (.aload_n 0, 1) := by decide +kernel
theorem dU_takeEquation_44 : decode cU_takeEquation 44 = .ok (.aload_n 0, 1) := by decide +kernel
theorem dU_takeEquation_45 : decode cU_takeEquation 45 = .ok (.getfield 20, 3) := by decide +kernel
theorem dU_takeEquation_48 : decode cU_takeEquation 48 = .ok (.aload_n 0, 1) := by decide +kernel
theorem dU_takeEquation_49 : decode cU_takeEquation 49 = .ok (.getfield 20, 3) := by decide +kernel
theorem dU_takeEquation_52 : decode cU_takeEquation 52 = .ok (.iload_n 1, 1) := by decide +kernel
theorem dU_takeEquation_53 : decode cU_takeEquation 53 = .ok (.iaload, 1) := by decide +kernel
theorem dU_takeEquation_54 : decode cU_takeEquation 54 = .ok (.iload_n 1, 1) := by decide +kernel
theorem dU_takeEquation_55 : decode cU_takeEquation 55 = .ok (.invokevirtual 65, 3) := by decide +kernel
theorem dU_takeEquation_58 : decode cU_takeEquation 58 = .ok (.iinc 1 1, 3) := by decide +kernel
theorem dU_takeEquation_61 : decode cU_takeEquation 61 = .ok (.goto (-59), 3) := by decide +kernel
theorem dU_takeEquation_64 : decode cU_takeEquation 64 = .ok (.return_, 1) := by decide +kernel
theorem dU_lead_0 : decode cU_lead 0 = .ok (.aload_n 0, 1) := by decide +kernel
theorem dU_lead_1 : decode cU_lead 1 = .ok (.getfield 20, 3) := by decide +kernel
theorem dU_lead_4 : decode cU_lead 4 = .ok (.iload_n 1, 1) := by decide +kernel
theorem dU_lead_5 : decode cU_lead 5 = .ok (.iaload, 1) := by decide +kernel
theorem dU_lead_6 : decode cU_lead 6 = .ok (.invokestatic 69, 3) := by decide +kernel
theorem dU_lead_9 : decode cU_lead 9 = .ok (.istore_n 2, 1) := by decide +kernel
theorem dU_lead_10 : decode cU_lead 10 = .ok (.iload_n 1, 1) := by decide +kernel
theorem dU_lead_11 : decode cU_lead 11 = .ok (.istore_n 3, 1) := by decide +kernel
theorem dU_lead_12 : decode cU_lead 12 = .ok (.iload_n 3, 1) := by decide +kernel
theorem dU_lead_13 : decode cU_lead 13 = .ok (.aload_n 0, 1) := by decide +kernel
theorem dU_lead_14 : decode cU_lead 14 = .ok (.getfield 34, 3) := by decide +kernel
theorem dU_lead_17 : decode cU_lead 17 = .ok (.if_icmp .ge 27, 3) := by decide +kernel
theorem dU_lead_20 : decode cU_lead 20 = .ok (.aload_n 0, 1) := by decide +kernel
theorem dU_lead_21 : decode cU_lead 21 = .ok (.getfield 11, 3) := by decide +kernel
theorem dU_lead_24 : decode cU_lead 24 = .ok (.iload_n 1, 1) := by decide +kernel
theorem dU_lead_25 : decode cU_lead 25 = .ok (.aaload, 1) := by decide +kernel
theorem dU_lead_26 : decode cU_lead 26 = .ok (.iload_n 3, 1) := by decide +kernel
theorem dU_lead_27 : decode cU_lead 27 = .ok (.iload_n 2, 1) := by decide +kernel
theorem dU_lead_28 : decode cU_lead 28 = .ok (.aload_n 0, 1) := by decide +kernel
theorem dU_lead_29 : decode cU_lead 29 = .ok (.getfield 20, 3) := by decide +kernel
theorem dU_lead_32 : decode cU_lead 32 = .ok (.iload_n 3, 1) := by decide +kernel
theorem dU_lead_33 : decode cU_lead 33 = .ok (.iaload, 1) := by decide +kernel
theorem dU_lead_34 : decode cU_lead 34 = .ok (.invokestatic 57, 3) := by decide +kernel
theorem dU_lead_37 : decode cU_lead 37 = .ok (.iastore, 1) := by decide +kernel
theorem dU_lead_38 : decode cU_lead 38 = .ok (.iinc 3 1, 3) := by decide +kernel
theorem dU_lead_41 : decode cU_lead 41 = .ok (.goto (-29), 3) := by decide +kernel
theorem dU_lead_44 : decode cU_lead 44 = .ok (.aload_n 0, 1) := by decide +kernel
theorem dU_lead_45 : decode cU_lead 45 = .ok (.getfield 16, 3) := by decide +kernel
theorem dU_lead_48 : decode cU_lead 48 = .ok (.iload_n 1, 1) := by decide +kernel
theorem dU_lead_49 : decode cU_lead 49 = .ok (.iconst 1, 1) := by decide +kernel
theorem dU_lead_50 : decode cU_lead 50 = .ok (.bastore, 1) := by decide +kernel
theorem dU_lead_51 : decode cU_lead 51 = .ok (.aload_n 0, 1) := by decide +kernel
theorem dU_lead_52 : decode cU_lead 52 = .ok (.dup, 1) := by decide +kernel
theorem dU_lead_53 : decode cU_lead 53 = .ok (.getfield 37, 3) := by decide +kernel
theorem dU_lead_56 : decode cU_lead 56 = .ok (.iconst 1, 1) := by decide +kernel
theorem dU_lead_57 : decode cU_lead 57 = .ok (.isub, 1) := by decide +kernel
theorem dU_lead_58 : decode cU_lead 58 = .ok (.putfield 37, 3) := by decide +kernel
theorem dU_lead_61 : decode cU_lead 61 = .ok (.return_, 1) := by decide +kernel
theorem dU_subtract_0 : decode cU_subtract 0 = .ok (.iload_n 3, 1) := by decide +kernel
theorem dU_subtract_1 : decode cU_subtract 1 = .ok (.istore 4, 2) := by decide +kernel
theorem dU_subtract_3 : decode cU_subtract 3 = .ok (.iload 4, 2) := by decide +kernel
theorem dU_subtract_5 : decode cU_subtract 5 = .ok (.aload_n 0, 1) := by decide +kernel
theorem dU_subtract_6 : decode cU_subtract 6 = .ok (.getfield 34, 3) := by decide +kernel
theorem dU_subtract_9 : decode cU_subtract 9 = .ok (.if_icmp .ge 35, 3) := by decide +kernel
theorem dU_subtract_12 : decode cU_subtract 12 = .ok (.aload_n 1, 1) := by decide +kernel
theorem dU_subtract_13 : decode cU_subtract 13 = .ok (.iload 4, 2) := by decide +kernel
theorem dU_subtract_15 : decode cU_subtract 15 = .ok (.aload_n 1, 1) := by decide +kernel
theorem dU_subtract_16 : decode cU_subtract 16 = .ok (.iload 4, 2) := by decide +kernel
theorem dU_subtract_18 : decode cU_subtract 18 = .ok (.iaload, 1) := by decide +kernel
theorem dU_subtract_19 : decode cU_subtract 19 = .ok (.i2l, 1) := by decide +kernel
theorem dU_subtract_20 : decode cU_subtract 20 = .ok (.iload_n 2, 1) := by decide +kernel
theorem dU_subtract_21 : decode cU_subtract 21 = .ok (.i2l, 1) := by decide +kernel
theorem dU_subtract_22 : decode cU_subtract 22 = .ok (.aload_n 0, 1) := by decide +kernel
theorem dU_subtract_23 : decode cU_subtract 23 = .ok (.getfield 11, 3) := by decide +kernel
theorem dU_subtract_26 : decode cU_subtract 26 = .ok (.iload_n 3, 1) := by decide +kernel
theorem dU_subtract_27 : decode cU_subtract 27 = .ok (.aaload, 1) := by decide +kernel
theorem dU_subtract_28 : decode cU_subtract 28 = .ok (.iload 4, 2) := by decide +kernel
theorem dU_subtract_30 : decode cU_subtract 30 = .ok (.iaload, 1) := by decide +kernel
theorem dU_subtract_31 : decode cU_subtract 31 = .ok (.i2l, 1) := by decide +kernel
theorem dU_subtract_32 : decode cU_subtract 32 = .ok (.lmul, 1) := by decide +kernel
theorem dU_subtract_33 : decode cU_subtract 33 = .ok (.lsub, 1) := by decide +kernel
theorem dU_subtract_34 : decode cU_subtract 34 = .ok (.invokestatic 53, 3) := by decide +kernel
theorem dU_subtract_37 : decode cU_subtract 37 = .ok (.iastore, 1) := by decide +kernel
theorem dU_subtract_38 : decode cU_subtract 38 = .ok (.iinc 4 1, 3) := by decide +kernel
theorem dU_subtract_41 : decode cU_subtract 41 = .ok (.goto (-38), 3) := by decide +kernel
theorem dU_subtract_44 : decode cU_subtract 44 = .ok (.return_, 1) := by decide +kernel
theorem dU_clearLedColumns_0 : decode cU_clearLedColumns 0 = .ok (.aload_n 0, 1) := by decide +kernel
theorem dU_clearLedColumns_1 : decode cU_clearLedColumns 1 = .ok (.getfield 34, 3) := by decide +kernel
theorem dU_clearLedColumns_4 : decode cU_clearLedColumns 4 = .ok (.iconst 1, 1) := by decide +kernel
theorem dU_clearLedColumns_5 : decode cU_clearLedColumns 5 = .ok (.isub, 1) := by decide +kernel
theorem dU_clearLedColumns_6 : decode cU_clearLedColumns 6 = .ok (.istore_n 1, 1) := by decide +kernel
theorem dU_clearLedColumns_7 : decode cU_clearLedColumns 7 = .ok (.iload_n 1, 1) := by decide +kernel
theorem dU_clearLedColumns_8 : decode cU_clearLedColumns 8 = .ok (.ifCond .le 70, 3) := by decide +kernel
theorem dU_clearLedColumns_11 : decode cU_clearLedColumns 11 = .ok (.iconst 0, 1) := by decide +kernel
theorem dU_clearLedColumns_12 : decode cU_clearLedColumns 12 = .ok (.istore_n 2, 1) := by decide +kernel
theorem dU_clearLedColumns_13 : decode cU_clearLedColumns 13 = .ok (.iload_n 2, 1) := by decide +kernel
theorem dU_clearLedColumns_14 : decode cU_clearLedColumns 14 = .ok (.iload_n 1, 1) := by decide +kernel
theorem dU_clearLedColumns_15 : decode cU_clearLedColumns 15 = .ok (.if_icmp .ge 57, 3) := by decide +kernel
theorem dU_clearLedColumns_18 : decode cU_clearLedColumns 18 = .ok (.aload_n 0, 1) := by decide +kernel
theorem dU_clearLedColumns_19 : decode cU_clearLedColumns 19 = .ok (.getfield 16, 3) := by decide +kernel
theorem dU_clearLedColumns_22 : decode cU_clearLedColumns 22 = .ok (.iload_n 1, 1) := by decide +kernel
theorem dU_clearLedColumns_23 : decode cU_clearLedColumns 23 = .ok (.baload, 1) := by decide +kernel
theorem dU_clearLedColumns_24 : decode cU_clearLedColumns 24 = .ok (.ifCond .eq 48, 3) := by decide +kernel
theorem dU_clearLedColumns_27 : decode cU_clearLedColumns 27 = .ok (.aload_n 0, 1) := by decide +kernel
theorem dU_clearLedColumns_28 : decode cU_clearLedColumns 28 = .ok (.getfield 16, 3) := by decide +kernel
theorem dU_clearLedColumns_31 : decode cU_clearLedColumns 31 = .ok (.iload_n 2, 1) := by decide +kernel
theorem dU_clearLedColumns_32 : decode cU_clearLedColumns 32 = .ok (.baload, 1) := by decide +kernel
theorem dU_clearLedColumns_33 : decode cU_clearLedColumns 33 = .ok (.ifCond .eq 33, 3) := by decide +kernel
theorem dU_clearLedColumns_36 : decode cU_clearLedColumns 36 = .ok (.aload_n 0, 1) := by decide +kernel
theorem dU_clearLedColumns_37 : decode cU_clearLedColumns 37 = .ok (.getfield 11, 3) := by decide +kernel
theorem dU_clearLedColumns_40 : decode cU_clearLedColumns 40 = .ok (.iload_n 2, 1) := by decide +kernel
theorem dU_clearLedColumns_41 : decode cU_clearLedColumns 41 = .ok (.aaload, 1) := by decide +kernel
theorem dU_clearLedColumns_42 : decode cU_clearLedColumns 42 = .ok (.iload_n 1, 1) := by decide +kernel
theorem dU_clearLedColumns_43 : decode cU_clearLedColumns 43 = .ok (.iaload, 1) := by decide +kernel
theorem dU_clearLedColumns_44 : decode cU_clearLedColumns 44 = .ok (.ifCond .eq 22, 3) := by decide +kernel
theorem dU_clearLedColumns_47 : decode cU_clearLedColumns 47 = .ok (.aload_n 0, 1) := by decide +kernel
theorem dU_clearLedColumns_48 : decode cU_clearLedColumns 48 = .ok (.aload_n 0, 1) := by decide +kernel
theorem dU_clearLedColumns_49 : decode cU_clearLedColumns 49 = .ok (.getfield 11, 3) := by decide +kernel
theorem dU_clearLedColumns_52 : decode cU_clearLedColumns 52 = .ok (.iload_n 2, 1) := by decide +kernel
theorem dU_clearLedColumns_53 : decode cU_clearLedColumns 53 = .ok (.aaload, 1) := by decide +kernel
theorem dU_clearLedColumns_54 : decode cU_clearLedColumns 54 = .ok (.aload_n 0, 1) := by decide +kernel
theorem dU_clearLedColumns_55 : decode cU_clearLedColumns 55 = .ok (.getfield 11, 3) := by decide +kernel
theorem dU_clearLedColumns_58 : decode cU_clearLedColumns 58 = .ok (.iload_n 2, 1) := by decide +kernel
theorem dU_clearLedColumns_59 : decode cU_clearLedColumns 59 = .ok (.aaload, 1) := by decide +kernel
theorem dU_clearLedColumns_60 : decode cU_clearLedColumns 60 = .ok (.iload_n 1, 1) := by decide +kernel
theorem dU_clearLedColumns_61 : decode cU_clearLedColumns 61 = .ok (.iaload, 1) := by decide +kernel
theorem dU_clearLedColumns_62 : decode cU_clearLedColumns 62 = .ok (.iload_n 1, 1) := by decide +kernel
theorem dU_clearLedColumns_63 : decode cU_clearLedColumns 63 = .ok (.invokevirtual 65, 3) := by decide +kernel
theorem dU_clearLedColumns_66 : decode cU_clearLedColumns 66 = .ok (.iinc 2 1, 3) := by decide +kernel
theorem dU_clearLedColumns_69 : decode cU_clearLedColumns 69 = .ok (.goto (-56), 3) := by decide +kernel
theorem dU_clearLedColumns_72 : decode cU_clearLedColumns 72 = .ok (.iinc 1 (-1), 3) := by decide +kernel
theorem dU_clearLedColumns_75 : decode cU_clearLedColumns 75 = .ok (.goto (-68), 3) := by decide +kernel
theorem dU_clearLedColumns_78 : decode cU_clearLedColumns 78 = .ok (.return_, 1) := by decide +kernel
theorem dU_listBegins_0 : decode cU_listBegins 0 = .ok (.iconst 0, 1) := by decide +kernel
theorem dU_listBegins_1 : decode cU_listBegins 1 = .ok (.istore_n 1, 1) := by decide +kernel
theorem dU_listBegins_2 : decode cU_listBegins 2 = .ok (.aload_n 0, 1) := by decide +kernel
theorem dU_listBegins_3 : decode cU_listBegins 3 = .ok (.getfield 34, 3) := by decide +kernel
theorem dU_listBegins_6 : decode cU_listBegins 6 = .ok (.iconst 1, 1) := by decide +kernel
theorem dU_listBegins_7 : decode cU_listBegins 7 = .ok (.isub, 1) := by decide +kernel
theorem dU_listBegins_8 : decode cU_listBegins 8 = .ok (.istore_n 2, 1) := by decide +kernel
theorem dU_listBegins_9 : decode cU_listBegins 9 = .ok (.iload_n 2, 1) := by decide +kernel
theorem dU_listBegins_10 : decode cU_listBegins 10 = .ok (.ifCond .lt 28, 3) := by decide +kernel
theorem dU_listBegins_13 : decode cU_listBegins 13 = .ok (.aload_n 0, 1) := by decide +kernel
theorem dU_listBegins_14 : decode cU_listBegins 14 = .ok (.getfield 16, 3) := by decide +kernel
theorem dU_listBegins_17 : decode cU_listBegins 17 = .ok (.iload_n 2, 1) := by decide +kernel
theorem dU_listBegins_18 : decode cU_listBegins 18 = .ok (.baload, 1) := by decide +kernel
theorem dU_listBegins_19 : decode cU_listBegins 19 = .ok (.ifCond .ne 13, 3) := by decide +kernel
theorem dU_listBegins_22 : decode cU_listBegins 22 = .ok (.aload_n 0, 1) := by decide +kernel
theorem dU_listBegins_23 : decode cU_listBegins 23 = .ok (.getfield 24, 3) := by decide +kernel
theorem dU_listBegins_26 : decode cU_listBegins 26 = .ok (.iload_n 1, 1) := by decide +kernel
theorem dU_listBegins_27 : decode cU_listBegins 27 = .ok (.iload_n 2, 1) := by decide +kernel
theorem dU_listBegins_28 : decode cU_listBegins 28 = .ok (.iastore, 1) := by decide +kernel
theorem dU_listBegins_29 : decode cU_listBegins 29 = .ok (.iinc 1 1, 3) := by decide +kernel
theorem dU_listBegins_32 : decode cU_listBegins 32 = .ok (.iinc 2 (-1), 3) := by decide +kernel
theorem dU_listBegins_35 : decode cU_listBegins 35 = .ok (.goto (-26), 3) := by decide +kernel
theorem dU_listBegins_38 : decode cU_listBegins 38 = .ok (.return_, 1) := by decide +kernel
