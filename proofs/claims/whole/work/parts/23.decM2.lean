/-! Decoded. -/
theorem dM_differ_48 : decode cM_differ 48 = .ok (.iconst 0, 1) := by decide +kernel
theorem dM_differ_49 : decode cM_differ 49 = .ok (.istore_n 3, 1) := by decide +kernel
theorem dM_differ_50 : decode cM_differ 50 = .ok (.iload_n 3, 1) := by decide +kernel
theorem dM_differ_51 : decode cM_differ 51 = .ok (.bipush 64, 2) := by decide +kernel
theorem dM_differ_53 : decode cM_differ 53 = .ok (.if_icmp .ge 37, 3) := by decide +kernel
theorem dM_differ_56 : decode cM_differ 56 = .ok (.aload_n 0, 1) := by decide +kernel
theorem dM_differ_57 : decode cM_differ 57 = .ok (.getfield 28, 3) := by decide +kernel
theorem dM_differ_60 : decode cM_differ 60 = .ok (.bipush 64, 2) := by decide +kernel
theorem dM_differ_62 : decode cM_differ 62 = .ok (.iload_n 1, 1) := by decide +kernel
theorem dM_differ_63 : decode cM_differ 63 = .ok (.imul, 1) := by decide +kernel
theorem dM_differ_64 : decode cM_differ 64 = .ok (.iload_n 3, 1) := by decide +kernel
theorem dM_differ_65 : decode cM_differ 65 = .ok (.iadd, 1) := by decide +kernel
theorem dM_differ_66 : decode cM_differ 66 = .ok (.laload, 1) := by decide +kernel
theorem dM_differ_67 : decode cM_differ 67 = .ok (.aload_n 0, 1) := by decide +kernel
theorem dM_differ_68 : decode cM_differ 68 = .ok (.getfield 28, 3) := by decide +kernel
theorem dM_differ_71 : decode cM_differ 71 = .ok (.bipush 64, 2) := by decide +kernel
theorem dM_differ_73 : decode cM_differ 73 = .ok (.iload_n 2, 1) := by decide +kernel
theorem dM_differ_74 : decode cM_differ 74 = .ok (.imul, 1) := by decide +kernel
theorem dM_differ_75 : decode cM_differ 75 = .ok (.iload_n 3, 1) := by decide +kernel
theorem dM_differ_76 : decode cM_differ 76 = .ok (.iadd, 1) := by decide +kernel
theorem dM_differ_77 : decode cM_differ 77 = .ok (.laload, 1) := by decide +kernel
theorem dM_differ_78 : decode cM_differ 78 = .ok (.lcmp, 1) := by decide +kernel
theorem dM_differ_79 : decode cM_differ 79 = .ok (.ifCond .eq 5, 3) := by decide +kernel
theorem dM_differ_82 : decode cM_differ 82 = .ok (.iload_n 3, 1) := by decide +kernel
theorem dM_differ_83 : decode cM_differ 83 = .ok (.ireturn, 1) := by decide +kernel
theorem dM_differ_84 : decode cM_differ 84 = .ok (.iinc 3 1, 3) := by decide +kernel
theorem dM_differ_87 : decode cM_differ 87 = .ok (.goto (-37), 3) := by decide +kernel
theorem dM_differ_90 : decode cM_differ 90 = .ok (.iconst (-1), 1) := by decide +kernel
theorem dM_differ_91 : decode cM_differ 91 = .ok (.ireturn, 1) := by decide +kernel
theorem dM_hangs_0 : decode cM_hangs 0 = .ok (.aload_n 0, 1) := by decide +kernel
theorem dM_hangs_1 : decode cM_hangs 1 = .ok (.aload_n 0, 1) := by decide +kernel
theorem dM_hangs_2 : decode cM_hangs 2 = .ok (.iload_n 1, 1) := by decide +kernel
theorem dM_hangs_3 : decode cM_hangs 3 = .ok (.invokevirtual 58, 3) := by decide +kernel
theorem dM_hangs_6 : decode cM_hangs 6 = .ok (.ifCond .eq 15, 3) := by decide +kernel
theorem dM_hangs_9 : decode cM_hangs 9 = .ok (.aload_n 0, 1) := by decide +kernel
theorem dM_hangs_10 : decode cM_hangs 10 = .ok (.iload_n 2, 1) := by decide +kernel
theorem dM_hangs_11 : decode cM_hangs 11 = .ok (.invokevirtual 58, 3) := by decide +kernel
theorem dM_hangs_14 : decode cM_hangs 14 = .ok (.ifCond .eq 7, 3) := by decide +kernel
theorem dM_hangs_17 : decode cM_hangs 17 = .ok (.iconst 0, 1) := by decide +kernel
theorem dM_hangs_18 : decode cM_hangs 18 = .ok (.goto 4, 3) := by decide +kernel
theorem dM_hangs_21 : decode cM_hangs 21 = .ok (.iconst 1, 1) := by decide +kernel
theorem dM_hangs_22 : decode cM_hangs 22 = .ok (.putfield 45, 3) := by decide +kernel
theorem dM_hangs_25 : decode cM_hangs 25 = .ok (.aload_n 0, 1) := by decide +kernel
theorem dM_hangs_26 : decode cM_hangs 26 = .ok (.getfield 45, 3) := by decide +kernel
theorem dM_hangs_29 : decode cM_hangs 29 = .ok (.ifCond .le 5, 3) := by decide +kernel
theorem dM_hangs_32 : decode cM_hangs 32 = .ok (.iconst 0, 1) := by decide +kernel
theorem dM_hangs_33 : decode cM_hangs 33 = .ok (.ireturn, 1) := by decide +kernel
theorem dM_hangs_34 : decode cM_hangs 34 = .ok (.iconst 0, 1) := by decide +kernel
theorem dM_hangs_35 : decode cM_hangs 35 = .ok (.istore_n 3, 1) := by decide +kernel
theorem dM_hangs_36 : decode cM_hangs 36 = .ok (.iload_n 3, 1) := by decide +kernel
theorem dM_hangs_37 : decode cM_hangs 37 = .ok (.bipush 40, 2) := by decide +kernel
theorem dM_hangs_39 : decode cM_hangs 39 = .ok (.if_icmp .ge 25, 3) := by decide +kernel
theorem dM_hangs_42 : decode cM_hangs 42 = .ok (.aload_n 0, 1) := by decide +kernel
theorem dM_hangs_43 : decode cM_hangs 43 = .ok (.getfield 41, 3) := by decide +kernel
theorem dM_hangs_46 : decode cM_hangs 46 = .ok (.iload_n 3, 1) := by decide +kernel
theorem dM_hangs_47 : decode cM_hangs 47 = .ok (.iload_n 3, 1) := by decide +kernel
theorem dM_hangs_48 : decode cM_hangs 48 = .ok (.iload_n 1, 1) := by decide +kernel
theorem dM_hangs_49 : decode cM_hangs 49 = .ok (.if_icmp .ne 7, 3) := by decide +kernel
theorem dM_hangs_52 : decode cM_hangs 52 = .ok (.iconst 1, 1) := by decide +kernel
theorem dM_hangs_53 : decode cM_hangs 53 = .ok (.goto 4, 3) := by decide +kernel
theorem dM_hangs_56 : decode cM_hangs 56 = .ok (.iconst 0, 1) := by decide +kernel
theorem dM_hangs_57 : decode cM_hangs 57 = .ok (.bastore, 1) := by decide +kernel
theorem dM_hangs_58 : decode cM_hangs 58 = .ok (.iinc 3 1, 3) := by decide +kernel
theorem dM_hangs_61 : decode cM_hangs 61 = .ok (.goto (-25), 3) := by decide +kernel
theorem dM_hangs_64 : decode cM_hangs 64 = .ok (.iload_n 1, 1) := by decide +kernel
theorem dM_hangs_65 : decode cM_hangs 65 = .ok (.istore_n 3, 1) := by decide +kernel
theorem dM_hangs_66 : decode cM_hangs 66 = .ok (.iload_n 3, 1) := by decide +kernel
theorem dM_hangs_67 : decode cM_hangs 67 = .ok (.ifCond .lt 64, 3) := by decide +kernel
theorem dM_hangs_70 : decode cM_hangs 70 = .ok (.aload_n 0, 1) := by decide +kernel
theorem dM_hangs_71 : decode cM_hangs 71 = .ok (.getfield 41, 3) := by decide +kernel
theorem dM_hangs_74 : decode cM_hangs 74 = .ok (.iload_n 3, 1) := by decide +kernel
theorem dM_hangs_75 : decode cM_hangs 75 = .ok (.baload, 1) := by decide +kernel
theorem dM_hangs_76 : decode cM_hangs 76 = .ok (.ifCond .eq 49, 3) := by decide +kernel
theorem dM_hangs_79 : decode cM_hangs 79 = .ok (.aload_n 0, 1) := by decide +kernel
theorem dM_hangs_80 : decode cM_hangs 80 = .ok (.getfield 7, 3) := by decide +kernel
theorem dM_hangs_83 : decode cM_hangs 83 = .ok (.iload_n 3, 1) := by decide +kernel
theorem dM_hangs_84 : decode cM_hangs 84 = .ok (.iaload, 1) := by decide +kernel
theorem dM_hangs_85 : decode cM_hangs 85 = .ok (.ifCond .ne 6, 3) := by decide +kernel
theorem dM_hangs_88 : decode cM_hangs 88 = .ok (.goto 37, 3) := by decide +kernel
theorem dM_hangs_91 : decode cM_hangs 91 = .ok (.aload_n 0, 1) := by decide +kernel
theorem dM_hangs_92 : decode cM_hangs 92 = .ok (.getfield 41, 3) := by decide +kernel
theorem dM_hangs_95 : decode cM_hangs 95 = .ok (.aload_n 0, 1) := by decide +kernel
theorem dM_hangs_96 : decode cM_hangs 96 = .ok (.getfield 13, 3) := by decide +kernel
theorem dM_hangs_99 : decode cM_hangs 99 = .ok (.iload_n 3, 1) := by decide +kernel
theorem dM_hangs_100 : decode cM_hangs 100 = .ok (.iaload, 1) := by decide +kernel
theorem dM_hangs_101 : decode cM_hangs 101 = .ok (.iconst 1, 1) := by decide +kernel
theorem dM_hangs_102 : decode cM_hangs 102 = .ok (.bastore, 1) := by decide +kernel
theorem dM_hangs_103 : decode cM_hangs 103 = .ok (.aload_n 0, 1) := by decide +kernel
theorem dM_hangs_104 : decode cM_hangs 104 = .ok (.getfield 7, 3) := by decide +kernel
theorem dM_hangs_107 : decode cM_hangs 107 = .ok (.iload_n 3, 1) := by decide +kernel
theorem dM_hangs_108 : decode cM_hangs 108 = .ok (.iaload, 1) := by decide +kernel
theorem dM_hangs_109 : decode cM_hangs 109 = .ok (.iconst 5, 1) := by decide +kernel
theorem dM_hangs_110 : decode cM_hangs 110 = .ok (.if_icmp .ge 15, 3) := by decide +kernel
theorem dM_hangs_113 : decode cM_hangs 113 = .ok (.aload_n 0, 1) := by decide +kernel
theorem dM_hangs_114 : decode cM_hangs 114 = .ok (.getfield 41, 3) := by decide +kernel
theorem dM_hangs_117 : decode cM_hangs 117 = .ok (.aload_n 0, 1) := by decide +kernel
theorem dM_hangs_118 : decode cM_hangs 118 = .ok (.getfield 16, 3) := by decide +kernel
theorem dM_hangs_121 : decode cM_hangs 121 = .ok (.iload_n 3, 1) := by decide +kernel
theorem dM_hangs_122 : decode cM_hangs 122 = .ok (.iaload, 1) := by decide +kernel
theorem dM_hangs_123 : decode cM_hangs 123 = .ok (.iconst 1, 1) := by decide +kernel
theorem dM_hangs_124 : decode cM_hangs 124 = .ok (.bastore, 1) := by decide +kernel
theorem dM_hangs_125 : decode cM_hangs 125 = .ok (.iinc 3 (-1), 3) := by decide +kernel
theorem dM_hangs_128 : decode cM_hangs 128 = .ok (.goto (-62), 3) := by decide +kernel
theorem dM_hangs_131 : decode cM_hangs 131 = .ok (.aload_n 0, 1) := by decide +kernel
theorem dM_hangs_132 : decode cM_hangs 132 = .ok (.getfield 41, 3) := by decide +kernel
theorem dM_hangs_135 : decode cM_hangs 135 = .ok (.iload_n 2, 1) := by decide +kernel
theorem dM_hangs_136 : decode cM_hangs 136 = .ok (.baload, 1) := by decide +kernel
theorem dM_hangs_137 : decode cM_hangs 137 = .ok (.ireturn, 1) := by decide +kernel
theorem dM_count_0 : decode cM_count 0 = .ok (.aload_n 0, 1) := by decide +kernel
theorem dM_count_1 : decode cM_count 1 = .ok (.iconst 0, 1) := by decide +kernel
theorem dM_count_2 : decode cM_count 2 = .ok (.putfield 45, 3) := by decide +kernel
theorem dM_count_5 : decode cM_count 5 = .ok (.aload_n 0, 1) := by decide +kernel
theorem dM_count_6 : decode cM_count 6 = .ok (.getfield 51, 3) := by decide +kernel
theorem dM_count_9 : decode cM_count 9 = .ok (.ireturn, 1) := by decide +kernel
theorem dM_fill_0 : decode cM_fill 0 = .ok (.aload_n 0, 1) := by decide +kernel
theorem dM_fill_1 : decode cM_fill 1 = .ok (.iload_n 1, 1) := by decide +kernel
theorem dM_fill_2 : decode cM_fill 2 = .ok (.invokevirtual 100, 3) := by decide +kernel
theorem dM_fill_5 : decode cM_fill 5 = .ok (.iconst 0, 1) := by decide +kernel
theorem dM_fill_6 : decode cM_fill 6 = .ok (.istore 4, 2) := by decide +kernel
theorem dM_fill_8 : decode cM_fill 8 = .ok (.iload 4, 2) := by decide +kernel
theorem dM_fill_10 : decode cM_fill 10 = .ok (.bipush 64, 2) := by decide +kernel
theorem dM_fill_12 : decode cM_fill 12 = .ok (.if_icmp .ge 132, 3) := by decide +kernel
theorem dM_fill_15 : decode cM_fill 15 = .ok (.iconst 0, 1) := by decide +kernel
theorem dM_fill_16 : decode cM_fill 16 = .ok (.istore 5, 2) := by decide +kernel
theorem dM_fill_18 : decode cM_fill 18 = .ok (.iload 5, 2) := by decide +kernel
theorem dM_fill_20 : decode cM_fill 20 = .ok (.bipush 20, 2) := by decide +kernel
theorem dM_fill_22 : decode cM_fill 22 = .ok (.if_icmp .ge 23, 3) := by decide +kernel
theorem dM_fill_25 : decode cM_fill 25 = .ok (.aload_n 0, 1) := by decide +kernel
theorem dM_fill_26 : decode cM_fill 26 = .ok (.getfield 35, 3) := by decide +kernel
theorem dM_fill_29 : decode cM_fill 29 = .ok (.bipush 20, 2) := by decide +kernel
theorem dM_fill_31 : decode cM_fill 31 = .ok (.iload 4, 2) := by decide +kernel
theorem dM_fill_33 : decode cM_fill 33 = .ok (.imul, 1) := by decide +kernel
theorem dM_fill_34 : decode cM_fill 34 = .ok (.iload 5, 2) := by decide +kernel
theorem dM_fill_36 : decode cM_fill 36 = .ok (.iadd, 1) := by decide +kernel
theorem dM_fill_37 : decode cM_fill 37 = .ok (.lconst 0, 1) := by decide +kernel
theorem dM_fill_38 : decode cM_fill 38 = .ok (.lastore, 1) := by decide +kernel
theorem dM_fill_39 : decode cM_fill 39 = .ok (.iinc 5 1, 3) := by decide +kernel
theorem dM_fill_42 : decode cM_fill 42 = .ok (.goto (-24), 3) := by decide +kernel
theorem dM_fill_45 : decode cM_fill 45 = .ok (.iload_n 2, 1) := by decide +kernel
theorem dM_fill_46 : decode cM_fill 46 = .ok (.istore 5, 2) := by decide +kernel
theorem dM_fill_48 : decode cM_fill 48 = .ok (.iload 5, 2) := by decide +kernel
theorem dM_fill_50 : decode cM_fill 50 = .ok (.ifCond .lt 88, 3) := by decide +kernel
theorem dM_fill_53 : decode cM_fill 53 = .ok (.iload 4, 2) := by decide +kernel
theorem dM_fill_55 : decode cM_fill 55 = .ok (.iload_n 2, 1) := by decide +kernel
theorem dM_fill_56 : decode cM_fill 56 = .ok (.iadd, 1) := by decide +kernel
theorem dM_fill_57 : decode cM_fill 57 = .ok (.bipush 64, 2) := by decide +kernel
theorem dM_fill_59 : decode cM_fill 59 = .ok (.if_icmp .ge 79, 3) := by decide +kernel
theorem dM_fill_62 : decode cM_fill 62 = .ok (.aload_n 0, 1) := by decide +kernel
theorem dM_fill_63 : decode cM_fill 63 = .ok (.getfield 28, 3) := by decide +kernel
theorem dM_fill_66 : decode cM_fill 66 = .ok (.bipush 64, 2) := by decide +kernel
theorem dM_fill_68 : decode cM_fill 68 = .ok (.iload_n 1, 1) := by decide +kernel
theorem dM_fill_69 : decode cM_fill 69 = .ok (.imul, 1) := by decide +kernel
theorem dM_fill_70 : decode cM_fill 70 = .ok (.iload 4, 2) := by decide +kernel
theorem dM_fill_72 : decode cM_fill 72 = .ok (.iadd, 1) := by decide +kernel
theorem dM_fill_73 : decode cM_fill 73 = .ok (.iload 5, 2) := by decide +kernel
theorem dM_fill_75 : decode cM_fill 75 = .ok (.iadd, 1) := by decide +kernel
theorem dM_fill_76 : decode cM_fill 76 = .ok (.laload, 1) := by decide +kernel
theorem dM_fill_77 : decode cM_fill 77 = .ok (.lstore 6, 2) := by decide +kernel
theorem dM_fill_79 : decode cM_fill 79 = .ok (.iconst 0, 1) := by decide +kernel
theorem dM_fill_80 : decode cM_fill 80 = .ok (.istore 8, 2) := by decide +kernel
theorem dM_fill_82 : decode cM_fill 82 = .ok (.iload 8, 2) := by decide +kernel
theorem dM_fill_84 : decode cM_fill 84 = .ok (.iload_n 3, 1) := by decide +kernel
theorem dM_fill_85 : decode cM_fill 85 = .ok (.if_icmp .gt 47, 3) := by decide +kernel
theorem dM_fill_88 : decode cM_fill 88 = .ok (.aload_n 0, 1) := by decide +kernel
theorem dM_fill_89 : decode cM_fill 89 = .ok (.getfield 35, 3) := by decide +kernel
theorem dM_fill_92 : decode cM_fill 92 = .ok (.bipush 20, 2) := by decide +kernel
theorem dM_fill_94 : decode cM_fill 94 = .ok (.iload 4, 2) := by decide +kernel
theorem dM_fill_96 : decode cM_fill 96 = .ok (.imul, 1) := by decide +kernel
theorem dM_fill_97 : decode cM_fill 97 = .ok (.iload_n 2, 1) := by decide +kernel
theorem dM_fill_98 : decode cM_fill 98 = .ok (.iload 5, 2) := by decide +kernel
theorem dM_fill_100 : decode cM_fill 100 = .ok (.isub, 1) := by decide +kernel
theorem dM_fill_101 : decode cM_fill 101 = .ok (.iload_n 3, 1) := by decide +kernel
theorem dM_fill_102 : decode cM_fill 102 = .ok (.iconst 1, 1) := by decide +kernel
theorem dM_fill_103 : decode cM_fill 103 = .ok (.iadd, 1) := by decide +kernel
theorem dM_fill_104 : decode cM_fill 104 = .ok (.imul, 1) := by decide +kernel
theorem dM_fill_105 : decode cM_fill 105 = .ok (.iadd, 1) := by decide +kernel
theorem dM_fill_106 : decode cM_fill 106 = .ok (.iload_n 3, 1) := by decide +kernel
theorem dM_fill_107 : decode cM_fill 107 = .ok (.iadd, 1) := by decide +kernel
theorem dM_fill_108 : decode cM_fill 108 = .ok (.iload 8, 2) := by decide +kernel
theorem dM_fill_110 : decode cM_fill 110 = .ok (.isub, 1) := by decide +kernel
theorem dM_fill_111 : decode cM_fill 111 = .ok (.lload 6, 2) := by decide +kernel
theorem dM_fill_113 : decode cM_fill 113 = .ok (.lastore, 1) := by decide +kernel
theorem dM_fill_114 : decode cM_fill 114 = .ok (.lload 6, 2) := by decide +kernel
theorem dM_fill_116 : decode cM_fill 116 = .ok (.iload 4, 2) := by decide +kernel
theorem dM_fill_118 : decode cM_fill 118 = .ok (.i2l, 1) := by decide +kernel
theorem dM_fill_119 : decode cM_fill 119 = .ok (.lmul, 1) := by decide +kernel
theorem dM_fill_120 : decode cM_fill 120 = .ok (.ldc2_w 49, 3) := by decide +kernel
theorem dM_fill_123 : decode cM_fill 123 = .ok (.lrem, 1) := by decide +kernel
theorem dM_fill_124 : decode cM_fill 124 = .ok (.lstore 6, 2) := by decide +kernel
theorem dM_fill_126 : decode cM_fill 126 = .ok (.iinc 8 1, 3) := by decide +kernel
theorem dM_fill_129 : decode cM_fill 129 = .ok (.goto (-47), 3) := by decide +kernel
theorem dM_fill_132 : decode cM_fill 132 = .ok (.iinc 5 (-1), 3) := by decide +kernel
theorem dM_fill_135 : decode cM_fill 135 = .ok (.goto (-87), 3) := by decide +kernel
theorem dM_fill_138 : decode cM_fill 138 = .ok (.iinc 4 1, 3) := by decide +kernel
theorem dM_fill_141 : decode cM_fill 141 = .ok (.goto (-133), 3) := by decide +kernel
theorem dM_fill_144 : decode cM_fill 144 = .ok (.return_, 1) := by decide +kernel
theorem dM_clear_0 : decode cM_clear 0 = .ok (.iconst 0, 1) := by decide +kernel
theorem dM_clear_1 : decode cM_clear 1 = .ok (.istore_n 2, 1) := by decide +kernel
theorem dM_clear_2 : decode cM_clear 2 = .ok (.iconst 0, 1) := by decide +kernel
theorem dM_clear_3 : decode cM_clear 3 = .ok (.istore_n 3, 1) := by decide +kernel
theorem dM_clear_4 : decode cM_clear 4 = .ok (.iload_n 1, 1) := by decide +kernel
theorem dM_clear_5 : decode cM_clear 5 = .ok (.iconst 1, 1) := by decide +kernel
theorem dM_clear_6 : decode cM_clear 6 = .ok (.isub, 1) := by decide +kernel
theorem dM_clear_7 : decode cM_clear 7 = .ok (.istore 4, 2) := by decide +kernel
theorem dM_clear_9 : decode cM_clear 9 = .ok (.iload 4, 2) := by decide +kernel
theorem dM_clear_11 : decode cM_clear 11 = .ok (.ifCond .lt 315, 3) := by decide +kernel
theorem dM_clear_14 : decode cM_clear 14 = .ok (.iload_n 3, 1) := by decide +kernel
theorem dM_clear_15 : decode cM_clear 15 = .ok (.istore 5, 2) := by decide +kernel
theorem dM_clear_17 : decode cM_clear 17 = .ok (.iload 5, 2) := by decide +kernel
theorem dM_clear_19 : decode cM_clear 19 = .ok (.bipush 64, 2) := by decide +kernel
theorem dM_clear_21 : decode cM_clear 21 = .ok (.if_icmp .ge 27, 3) := by decide +kernel
theorem dM_clear_24 : decode cM_clear 24 = .ok (.aload_n 0, 1) := by decide +kernel
theorem dM_clear_25 : decode cM_clear 25 = .ok (.getfield 35, 3) := by decide +kernel
theorem dM_clear_28 : decode cM_clear 28 = .ok (.bipush 20, 2) := by decide +kernel
theorem dM_clear_30 : decode cM_clear 30 = .ok (.iload 5, 2) := by decide +kernel
theorem dM_clear_32 : decode cM_clear 32 = .ok (.imul, 1) := by decide +kernel
theorem dM_clear_33 : decode cM_clear 33 = .ok (.iload 4, 2) := by decide +kernel
theorem dM_clear_35 : decode cM_clear 35 = .ok (.iadd, 1) := by decide +kernel
theorem dM_clear_36 : decode cM_clear 36 = .ok (.laload, 1) := by decide +kernel
theorem dM_clear_37 : decode cM_clear 37 = .ok (.lconst 0, 1) := by decide +kernel
theorem dM_clear_38 : decode cM_clear 38 = .ok (.lcmp, 1) := by decide +kernel
theorem dM_clear_39 : decode cM_clear 39 = .ok (.ifCond .ne 9, 3) := by decide +kernel
theorem dM_clear_42 : decode cM_clear 42 = .ok (.iinc 5 1, 3) := by decide +kernel
theorem dM_clear_45 : decode cM_clear 45 = .ok (.goto (-28), 3) := by decide +kernel
theorem dM_clear_48 : decode cM_clear 48 = .ok (.aload_n 0, 1) := by decide +kernel
theorem dM_clear_49 : decode cM_clear 49 = .ok (.getfield 38, 3) := by decide +kernel
theorem dM_clear_52 : decode cM_clear 52 = .ok (.iload 4, 2) := by decide +kernel
theorem dM_clear_54 : decode cM_clear 54 = .ok (.iconst (-1), 1) := by decide +kernel
theorem dM_clear_55 : decode cM_clear 55 = .ok (.iastore, 1) := by decide +kernel
theorem dM_clear_56 : decode cM_clear 56 = .ok (.iload 5, 2) := by decide +kernel
theorem dM_clear_58 : decode cM_clear 58 = .ok (.bipush 64, 2) := by decide +kernel
theorem dM_clear_60 : decode cM_clear 60 = .ok (.if_icmp .ne 9, 3) := by decide +kernel
theorem dM_clear_63 : decode cM_clear 63 = .ok (.iinc 2 1, 3) := by decide +kernel
theorem dM_clear_66 : decode cM_clear 66 = .ok (.goto 254, 3) := by decide +kernel
theorem dM_clear_69 : decode cM_clear 69 = .ok (.iconst 0, 1) := by decide +kernel
theorem dM_clear_70 : decode cM_clear 70 = .ok (.istore 6, 2) := by decide +kernel
theorem dM_clear_72 : decode cM_clear 72 = .ok (.iload 6, 2) := by decide +kernel
theorem dM_clear_74 : decode cM_clear 74 = .ok (.iload_n 1, 1) := by decide +kernel
theorem dM_clear_75 : decode cM_clear 75 = .ok (.if_icmp .ge 63, 3) := by decide +kernel
theorem dM_clear_78 : decode cM_clear 78 = .ok (.aload_n 0, 1) := by decide +kernel
theorem dM_clear_79 : decode cM_clear 79 = .ok (.getfield 35, 3) := by decide +kernel
theorem dM_clear_82 : decode cM_clear 82 = .ok (.bipush 20, 2) := by decide +kernel
theorem dM_clear_84 : decode cM_clear 84 = .ok (.iload 5, 2) := by decide +kernel
theorem dM_clear_86 : decode cM_clear 86 = .ok (.imul, 1) := by decide +kernel
theorem dM_clear_87 : decode cM_clear 87 = .ok (.iload 6, 2) := by decide +kernel
theorem dM_clear_89 : decode cM_clear 89 = .ok (.iadd, 1) := by decide +kernel
theorem dM_clear_90 : decode cM_clear 90 = .ok (.laload, 1) := by decide +kernel
theorem dM_clear_91 : decode cM_clear 91 = .ok (.lstore 7, 2) := by decide +kernel
theorem dM_clear_93 : decode cM_clear 93 = .ok (.aload_n 0, 1) := by decide +kernel
theorem dM_clear_94 : decode cM_clear 94 = .ok (.getfield 35, 3) := by decide +kernel
theorem dM_clear_97 : decode cM_clear 97 = .ok (.bipush 20, 2) := by decide +kernel
theorem dM_clear_99 : decode cM_clear 99 = .ok (.iload 5, 2) := by decide +kernel
theorem dM_clear_101 : decode cM_clear 101 = .ok (.imul, 1) := by decide +kernel
theorem dM_clear_102 : decode cM_clear 102 = .ok (.iload 6, 2) := by decide +kernel
theorem dM_clear_104 : decode cM_clear 104 = .ok (.iadd, 1) := by decide +kernel
theorem dM_clear_105 : decode cM_clear 105 = .ok (.aload_n 0, 1) := by decide +kernel
theorem dM_clear_106 : decode cM_clear 106 = .ok (.getfield 35, 3) := by decide +kernel
theorem dM_clear_109 : decode cM_clear 109 = .ok (.bipush 20, 2) := by decide +kernel
theorem dM_clear_111 : decode cM_clear 111 = .ok (.iload_n 3, 1) := by decide +kernel
theorem dM_clear_112 : decode cM_clear 112 = .ok (.imul, 1) := by decide +kernel
theorem dM_clear_113 : decode cM_clear 113 = .ok (.iload 6, 2) := by decide +kernel
theorem dM_clear_115 : decode cM_clear 115 = .ok (.iadd, 1) := by decide +kernel
theorem dM_clear_116 : decode cM_clear 116 = .ok (.laload, 1) := by decide +kernel
theorem dM_clear_117 : decode cM_clear 117 = .ok (.lastore, 1) := by decide +kernel
theorem dM_clear_118 : decode cM_clear 118 = .ok (.aload_n 0, 1) := by decide +kernel
theorem dM_clear_119 : decode cM_clear 119 = .ok (.getfield 35, 3) := by decide +kernel
theorem dM_clear_122 : decode cM_clear 122 = .ok (.bipush 20, 2) := by decide +kernel
theorem dM_clear_124 : decode cM_clear 124 = .ok (.iload_n 3, 1) := by decide +kernel
theorem dM_clear_125 : decode cM_clear 125 = .ok (.imul, 1) := by decide +kernel
theorem dM_clear_126 : decode cM_clear 126 = .ok (.iload 6, 2) := by decide +kernel
theorem dM_clear_128 : decode cM_clear 128 = .ok (.iadd, 1) := by decide +kernel
theorem dM_clear_129 : decode cM_clear 129 = .ok (.lload 7, 2) := by decide +kernel
theorem dM_clear_131 : decode cM_clear 131 = .ok (.lastore, 1) := by decide +kernel
theorem dM_clear_132 : decode cM_clear 132 = .ok (.iinc 6 1, 3) := by decide +kernel
theorem dM_clear_135 : decode cM_clear 135 = .ok (.goto (-63), 3) := by decide +kernel
theorem dM_clear_138 : decode cM_clear 138 = .ok (.aload_n 0, 1) := by decide +kernel
theorem dM_clear_139 : decode cM_clear 139 = .ok (.getfield 35, 3) := by decide +kernel
theorem dM_clear_142 : decode cM_clear 142 = .ok (.bipush 20, 2) := by decide +kernel
theorem dM_clear_144 : decode cM_clear 144 = .ok (.iload_n 3, 1) := by decide +kernel
theorem dM_clear_145 : decode cM_clear 145 = .ok (.imul, 1) := by decide +kernel
theorem dM_clear_146 : decode cM_clear 146 = .ok (.iload 4, 2) := by decide +kernel
theorem dM_clear_148 : decode cM_clear 148 = .ok (.iadd, 1) := by decide +kernel
theorem dM_clear_149 : decode cM_clear 149 = .ok (.laload, 1) := by decide +kernel
theorem dM_clear_150 : decode cM_clear 150 = .ok (.invokestatic 90, 3) := by decide +kernel
theorem dM_clear_153 : decode cM_clear 153 = .ok (.lstore 6, 2) := by decide +kernel
theorem dM_clear_155 : decode cM_clear 155 = .ok (.iconst 0, 1) := by decide +kernel
theorem dM_clear_156 : decode cM_clear 156 = .ok (.istore 8, 2) := by decide +kernel
theorem dM_clear_158 : decode cM_clear 158 = .ok (.iload 8, 2) := by decide +kernel
theorem dM_clear_160 : decode cM_clear 160 = .ok (.iload_n 1, 1) := by decide +kernel
theorem dM_clear_161 : decode cM_clear 161 = .ok (.if_icmp .ge 40, 3) := by decide +kernel
theorem dM_clear_164 : decode cM_clear 164 = .ok (.aload_n 0, 1) := by decide +kernel
theorem dM_clear_165 : decode cM_clear 165 = .ok (.getfield 35, 3) := by decide +kernel
theorem dM_clear_168 : decode cM_clear 168 = .ok (.bipush 20, 2) := by decide +kernel
theorem dM_clear_170 : decode cM_clear 170 = .ok (.iload_n 3, 1) := by decide +kernel
theorem dM_clear_171 : decode cM_clear 171 = .ok (.imul, 1) := by decide +kernel
theorem dM_clear_172 : decode cM_clear 172 = .ok (.iload 8, 2) := by decide +kernel
theorem dM_clear_174 : decode cM_clear 174 = .ok (.iadd, 1) := by decide +kernel
theorem dM_clear_175 : decode cM_clear 175 = .ok (.aload_n 0, 1) := by decide +kernel
theorem dM_clear_176 : decode cM_clear 176 = .ok (.getfield 35, 3) := by decide +kernel
theorem dM_clear_179 : decode cM_clear 179 = .ok (.bipush 20, 2) := by decide +kernel
theorem dM_clear_181 : decode cM_clear 181 = .ok (.iload_n 3, 1) := by decide +kernel
theorem dM_clear_182 : decode cM_clear 182 = .ok (.imul, 1) := by decide +kernel
theorem dM_clear_183 : decode cM_clear 183 = .ok (.iload 8, 2) := by decide +kernel
theorem dM_clear_185 : decode cM_clear 185 = .ok (.iadd, 1) := by decide +kernel
theorem dM_clear_186 : decode cM_clear 186 = .ok (.laload, 1) := by decide +kernel
theorem dM_clear_187 : decode cM_clear 187 = .ok (.lload 6, 2) := by decide +kernel
theorem dM_clear_189 : decode cM_clear 189 = .ok (.lmul, 1) := by decide +kernel
theorem dM_clear_190 : decode cM_clear 190 = .ok (.ldc2_w 49, 3) := by decide +kernel
theorem dM_clear_193 : decode cM_clear 193 = .ok (.lrem, 1) := by decide +kernel
theorem dM_clear_194 : decode cM_clear 194 = .ok (.lastore, 1) := by decide +kernel
theorem dM_clear_195 : decode cM_clear 195 = .ok (.iinc 8 1, 3) := by decide +kernel
theorem dM_clear_198 : decode cM_clear 198 = .ok (.goto (-40), 3) := by decide +kernel
theorem dM_clear_201 : decode cM_clear 201 = .ok (.iconst 0, 1) := by decide +kernel
theorem dM_clear_202 : decode cM_clear 202 = .ok (.istore 8, 2) := by decide +kernel
theorem dM_clear_204 : decode cM_clear 204 = .ok (.iload 8, 2) := by decide +kernel
theorem dM_clear_206 : decode cM_clear 206 = .ok (.bipush 64, 2) := by decide +kernel
theorem dM_clear_208 : decode cM_clear 208 = .ok (.if_icmp .ge 101, 3) := by decide +kernel
theorem dM_clear_211 : decode cM_clear 211 = .ok (.iload 8, 2) := by decide +kernel
theorem dM_clear_213 : decode cM_clear 213 = .ok (.iload_n 3, 1) := by decide +kernel
theorem dM_clear_214 : decode cM_clear 214 = .ok (.if_icmp .ne 7, 3) := by decide +kernel
theorem dM_clear_217 : decode cM_clear 217 = .ok (.lconst 0, 1) := by decide +kernel
theorem dM_clear_218 : decode cM_clear 218 = .ok (.goto 16, 3) := by decide +kernel
theorem dM_clear_221 : decode cM_clear 221 = .ok (.aload_n 0, 1) := by decide +kernel
theorem dM_clear_222 : decode cM_clear 222 = .ok (.getfield 35, 3) := by decide +kernel
theorem dM_clear_225 : decode cM_clear 225 = .ok (.bipush 20, 2) := by decide +kernel
theorem dM_clear_227 : decode cM_clear 227 = .ok (.iload 8, 2) := by decide +kernel
theorem dM_clear_229 : decode cM_clear 229 = .ok (.imul, 1) := by decide +kernel
theorem dM_clear_230 : decode cM_clear 230 = .ok (.iload 4, 2) := by decide +kernel
theorem dM_clear_232 : decode cM_clear 232 = .ok (.iadd, 1) := by decide +kernel
theorem dM_clear_233 : decode cM_clear 233 = .ok (.laload, 1) := by decide +kernel
theorem dM_clear_234 : decode cM_clear 234 = .ok (.lstore 9, 2) := by decide +kernel
theorem dM_clear_236 : decode cM_clear 236 = .ok (.iconst 0, 1) := by decide +kernel
theorem dM_clear_237 : decode cM_clear 237 = .ok (.istore 11, 2) := by decide +kernel
theorem dM_clear_239 : decode cM_clear 239 = .ok (.iload 11, 2) := by decide +kernel
theorem dM_clear_241 : decode cM_clear 241 = .ok (.iload_n 1, 1) := by decide +kernel
theorem dM_clear_242 : decode cM_clear 242 = .ok (.if_icmp .ge 61, 3) := by decide +kernel
theorem dM_clear_245 : decode cM_clear 245 = .ok (.lload 9, 2) := by decide +kernel
theorem dM_clear_247 : decode cM_clear 247 = .ok (.lconst 0, 1) := by decide +kernel
theorem dM_clear_248 : decode cM_clear 248 = .ok (.lcmp, 1) := by decide +kernel
theorem dM_clear_249 : decode cM_clear 249 = .ok (.ifCond .le 54, 3) := by decide +kernel
theorem dM_clear_252 : decode cM_clear 252 = .ok (.aload_n 0, 1) := by decide +kernel
theorem dM_clear_253 : decode cM_clear 253 = .ok (.getfield 35, 3) := by decide +kernel
theorem dM_clear_256 : decode cM_clear 256 = .ok (.bipush 20, 2) := by decide +kernel
theorem dM_clear_258 : decode cM_clear 258 = .ok (.iload 8, 2) := by decide +kernel
theorem dM_clear_260 : decode cM_clear 260 = .ok (.imul, 1) := by decide +kernel
theorem dM_clear_261 : decode cM_clear 261 = .ok (.iload 11, 2) := by decide +kernel
theorem dM_clear_263 : decode cM_clear 263 = .ok (.iadd, 1) := by decide +kernel
theorem dM_clear_264 : decode cM_clear 264 = .ok (.aload_n 0, 1) := by decide +kernel
theorem dM_clear_265 : decode cM_clear 265 = .ok (.getfield 35, 3) := by decide +kernel
theorem dM_clear_268 : decode cM_clear 268 = .ok (.bipush 20, 2) := by decide +kernel
theorem dM_clear_270 : decode cM_clear 270 = .ok (.iload 8, 2) := by decide +kernel
theorem dM_clear_272 : decode cM_clear 272 = .ok (.imul, 1) := by decide +kernel
theorem dM_clear_273 : decode cM_clear 273 = .ok (.iload 11, 2) := by decide +kernel
theorem dM_clear_275 : decode cM_clear 275 = .ok (.iadd, 1) := by decide +kernel
theorem dM_clear_276 : decode cM_clear 276 = .ok (.laload, 1) := by decide +kernel
theorem dM_clear_277 : decode cM_clear 277 = .ok (.lload 9, 2) := by decide +kernel
theorem dM_clear_279 : decode cM_clear 279 = .ok (.aload_n 0, 1) := by decide +kernel
theorem dM_clear_280 : decode cM_clear 280 = .ok (.getfield 35, 3) := by decide +kernel
theorem dM_clear_283 : decode cM_clear 283 = .ok (.bipush 20, 2) := by decide +kernel
theorem dM_clear_285 : decode cM_clear 285 = .ok (.iload_n 3, 1) := by decide +kernel
theorem dM_clear_286 : decode cM_clear 286 = .ok (.imul, 1) := by decide +kernel
theorem dM_clear_287 : decode cM_clear 287 = .ok (.iload 11, 2) := by decide +kernel
theorem dM_clear_289 : decode cM_clear 289 = .ok (.iadd, 1) := by decide +kernel
theorem dM_clear_290 : decode cM_clear 290 = .ok (.laload, 1) := by decide +kernel
theorem dM_clear_291 : decode cM_clear 291 = .ok (.lmul, 1) := by decide +kernel
theorem dM_clear_292 : decode cM_clear 292 = .ok (.lsub, 1) := by decide +kernel
theorem dM_clear_293 : decode cM_clear 293 = .ok (.invokestatic 70, 3) := by decide +kernel
theorem dM_clear_296 : decode cM_clear 296 = .ok (.lastore, 1) := by decide +kernel
theorem dM_clear_297 : decode cM_clear 297 = .ok (.iinc 11 1, 3) := by decide +kernel
theorem dM_clear_300 : decode cM_clear 300 = .ok (.goto (-61), 3) := by decide +kernel
theorem dM_clear_303 : decode cM_clear 303 = .ok (.iinc 8 1, 3) := by decide +kernel
theorem dM_clear_306 : decode cM_clear 306 = .ok (.goto (-102), 3) := by decide +kernel
theorem dM_clear_309 : decode cM_clear 309 = .ok (.aload_n 0, 1) := by decide +kernel
theorem dM_clear_310 : decode cM_clear 310 = .ok (.getfield 38, 3) := by decide +kernel
theorem dM_clear_313 : decode cM_clear 313 = .ok (.iload 4, 2) := by decide +kernel
theorem dM_clear_315 : decode cM_clear 315 = .ok (.iload_n 3, 1) := by decide +kernel
theorem dM_clear_316 : decode cM_clear 316 = .ok (.iastore, 1) := by decide +kernel
theorem dM_clear_317 : decode cM_clear 317 = .ok (.iinc 3 1, 3) := by decide +kernel
theorem dM_clear_320 : decode cM_clear 320 = .ok (.iinc 4 (-1), 3) := by decide +kernel
theorem dM_clear_323 : decode cM_clear 323 = .ok (.goto (-314), 3) := by decide +kernel
theorem dM_clear_326 : decode cM_clear 326 = .ok (.iload_n 2, 1) := by decide +kernel
theorem dM_clear_327 : decode cM_clear 327 = .ok (.ireturn, 1) := by decide +kernel
theorem dM_guess_0 : decode cM_guess 0 = .ok (.aload_n 0, 1) := by decide +kernel
theorem dM_guess_1 : decode cM_guess 1 = .ok (.aload_n 0, 1) := by decide +kernel
theorem dM_guess_2 : decode cM_guess 2 = .ok (.iload_n 1, 1) := by decide +kernel
theorem dM_guess_3 : decode cM_guess 3 = .ok (.invokevirtual 58, 3) := by decide +kernel
theorem dM_guess_6 : decode cM_guess 6 = .ok (.ifCond .ne 7, 3) := by decide +kernel
theorem dM_guess_9 : decode cM_guess 9 = .ok (.iconst 1, 1) := by decide +kernel
theorem dM_guess_10 : decode cM_guess 10 = .ok (.goto 32, 3) := by decide +kernel
theorem dM_guess_13 : decode cM_guess 13 = .ok (.iload_n 2, 1) := by decide +kernel
theorem dM_guess_14 : decode cM_guess 14 = .ok (.i2l, 1) := by decide +kernel
theorem dM_guess_15 : decode cM_guess 15 = .ok (.lconst 0, 1) := by decide +kernel
theorem dM_guess_16 : decode cM_guess 16 = .ok (.ldc2_w 104, 3) := by decide +kernel
theorem dM_guess_19 : decode cM_guess 19 = .ok (.invokestatic 54, 3) := by decide +kernel
theorem dM_guess_22 : decode cM_guess 22 = .ok (.ifCond .eq 15, 3) := by decide +kernel
theorem dM_guess_25 : decode cM_guess 25 = .ok (.iload_n 3, 1) := by decide +kernel
theorem dM_guess_26 : decode cM_guess 26 = .ok (.i2l, 1) := by decide +kernel
theorem dM_guess_27 : decode cM_guess 27 = .ok (.lconst 0, 1) := by decide +kernel
theorem dM_guess_28 : decode cM_guess 28 = .ok (.ldc2_w 62, 3) := by decide +kernel
theorem dM_guess_31 : decode cM_guess 31 = .ok (.invokestatic 54, 3) := by decide +kernel
theorem dM_guess_34 : decode cM_guess 34 = .ok (.ifCond .ne 7, 3) := by decide +kernel
theorem dM_guess_37 : decode cM_guess 37 = .ok (.iconst 2, 1) := by decide +kernel
theorem dM_guess_38 : decode cM_guess 38 = .ok (.goto 4, 3) := by decide +kernel
theorem dM_guess_41 : decode cM_guess 41 = .ok (.iconst 0, 1) := by decide +kernel
theorem dM_guess_42 : decode cM_guess 42 = .ok (.putfield 45, 3) := by decide +kernel
theorem dM_guess_45 : decode cM_guess 45 = .ok (.aload_n 0, 1) := by decide +kernel
theorem dM_guess_46 : decode cM_guess 46 = .ok (.getfield 45, 3) := by decide +kernel
theorem dM_guess_49 : decode cM_guess 49 = .ok (.ifCond .le 5, 3) := by decide +kernel
theorem dM_guess_52 : decode cM_guess 52 = .ok (.iconst 0, 1) := by decide +kernel
theorem dM_guess_53 : decode cM_guess 53 = .ok (.ireturn, 1) := by decide +kernel
theorem dM_guess_54 : decode cM_guess 54 = .ok (.iload_n 2, 1) := by decide +kernel
theorem dM_guess_55 : decode cM_guess 55 = .ok (.iconst 1, 1) := by decide +kernel
theorem dM_guess_56 : decode cM_guess 56 = .ok (.iadd, 1) := by decide +kernel
theorem dM_guess_57 : decode cM_guess 57 = .ok (.iload_n 3, 1) := by decide +kernel
theorem dM_guess_58 : decode cM_guess 58 = .ok (.iconst 1, 1) := by decide +kernel
theorem dM_guess_59 : decode cM_guess 59 = .ok (.iadd, 1) := by decide +kernel
theorem dM_guess_60 : decode cM_guess 60 = .ok (.imul, 1) := by decide +kernel
theorem dM_guess_61 : decode cM_guess 61 = .ok (.istore 4, 2) := by decide +kernel
theorem dM_guess_63 : decode cM_guess 63 = .ok (.aload_n 0, 1) := by decide +kernel
theorem dM_guess_64 : decode cM_guess 64 = .ok (.iload_n 1, 1) := by decide +kernel
theorem dM_guess_65 : decode cM_guess 65 = .ok (.iload_n 2, 1) := by decide +kernel
theorem dM_guess_66 : decode cM_guess 66 = .ok (.iload_n 3, 1) := by decide +kernel
theorem dM_guess_67 : decode cM_guess 67 = .ok (.invokevirtual 106, 3) := by decide +kernel
theorem dM_guess_70 : decode cM_guess 70 = .ok (.aload_n 0, 1) := by decide +kernel
theorem dM_guess_71 : decode cM_guess 71 = .ok (.aload_n 0, 1) := by decide +kernel
theorem dM_guess_72 : decode cM_guess 72 = .ok (.iload 4, 2) := by decide +kernel
theorem dM_guess_74 : decode cM_guess 74 = .ok (.invokevirtual 110, 3) := by decide +kernel
theorem dM_guess_77 : decode cM_guess 77 = .ok (.putfield 113, 3) := by decide +kernel
theorem dM_guess_80 : decode cM_guess 80 = .ok (.aload_n 0, 1) := by decide +kernel
theorem dM_guess_81 : decode cM_guess 81 = .ok (.iload_n 2, 1) := by decide +kernel
theorem dM_guess_82 : decode cM_guess 82 = .ok (.putfield 116, 3) := by decide +kernel
theorem dM_guess_85 : decode cM_guess 85 = .ok (.aload_n 0, 1) := by decide +kernel
theorem dM_guess_86 : decode cM_guess 86 = .ok (.iload_n 3, 1) := by decide +kernel
theorem dM_guess_87 : decode cM_guess 87 = .ok (.putfield 119, 3) := by decide +kernel
theorem dM_guess_90 : decode cM_guess 90 = .ok (.iconst 0, 1) := by decide +kernel
theorem dM_guess_91 : decode cM_guess 91 = .ok (.istore 5, 2) := by decide +kernel
theorem dM_guess_93 : decode cM_guess 93 = .ok (.iconst 0, 1) := by decide +kernel
theorem dM_guess_94 : decode cM_guess 94 = .ok (.istore 6, 2) := by decide +kernel
theorem dM_guess_96 : decode cM_guess 96 = .ok (.iload 6, 2) := by decide +kernel
theorem dM_guess_98 : decode cM_guess 98 = .ok (.iload 4, 2) := by decide +kernel
theorem dM_guess_100 : decode cM_guess 100 = .ok (.if_icmp .ge 114, 3) := by decide +kernel
theorem dM_guess_103 : decode cM_guess 103 = .ok (.aload_n 0, 1) := by decide +kernel
theorem dM_guess_104 : decode cM_guess 104 = .ok (.getfield 38, 3) := by decide +kernel
theorem dM_guess_107 : decode cM_guess 107 = .ok (.iload 6, 2) := by decide +kernel
theorem dM_guess_109 : decode cM_guess 109 = .ok (.iaload, 1) := by decide +kernel
theorem dM_guess_110 : decode cM_guess 110 = .ok (.iconst (-1), 1) := by decide +kernel
theorem dM_guess_111 : decode cM_guess 111 = .ok (.if_icmp .eq 6, 3) := by decide +kernel
theorem dM_guess_114 : decode cM_guess 114 = .ok (.goto 94, 3) := by decide +kernel
theorem dM_guess_117 : decode cM_guess 117 = .ok (.iconst 0, 1) := by decide +kernel
theorem dM_guess_118 : decode cM_guess 118 = .ok (.istore 7, 2) := by decide +kernel
