theorem dX9_fault_0 : decode cX9_fault 0 = .ok (.aload_n 0, 1) := by decide +kernel
theorem dX9_fault_1 : decode cX9_fault 1 = .ok (.getfield 10, 3) := by decide +kernel
theorem dX9_fault_4 : decode cX9_fault 4 = .ok (.aload_n 0, 1) := by decide +kernel
theorem dX9_fault_5 : decode cX9_fault 5 = .ok (.getfield 23, 3) := by decide +kernel
theorem dX9_fault_8 : decode cX9_fault 8 = .ok (.invokevirtual 110, 3) := by decide +kernel
theorem dX9_fault_11 : decode cX9_fault 11 = .ok (.ireturn, 1) := by decide +kernel
theorem dX9_build_0 : decode cX9_build 0 = .ok (.aload_n 0, 1) := by decide +kernel
theorem dX9_build_1 : decode cX9_build 1 = .ok (.getfield 10, 3) := by decide +kernel
theorem dX9_build_4 : decode cX9_build 4 = .ok (.aload_n 0, 1) := by decide +kernel
theorem dX9_build_5 : decode cX9_build 5 = .ok (.getfield 23, 3) := by decide +kernel
theorem dX9_build_8 : decode cX9_build 8 = .ok (.invokevirtual 110, 3) := by decide +kernel
theorem dX9_build_11 : decode cX9_build 11 = .ok (.bipush (-4), 2) := by decide +kernel
theorem dX9_build_13 : decode cX9_build 13 = .ok (.if_icmp .ne 13, 3) := by decide +kernel
theorem dX9_build_16 : decode cX9_build 16 = .ok (.aload_n 0, 1) := by decide +kernel
theorem dX9_build_17 : decode cX9_build 17 = .ok (.getfield 23, 3) := by decide +kernel
theorem dX9_build_20 : decode cX9_build 20 = .ok (.getfield 114, 3) := by decide +kernel
theorem dX9_build_23 : decode cX9_build 23 = .ok (.ifCond .ne 6, 3) := by decide +kernel
theorem dX9_build_26 : decode cX9_build 26 = .ok (.bipush (-2), 2) := by decide +kernel
theorem dX9_build_28 : decode cX9_build 28 = .ok (.ireturn, 1) := by decide +kernel
theorem dX9_build_29 : decode cX9_build 29 = .ok (.aload_n 0, 1) := by decide +kernel
theorem dX9_build_30 : decode cX9_build 30 = .ok (.getfield 74, 3) := by decide +kernel
theorem dX9_build_33 : decode cX9_build 33 = .ok (.invokevirtual 117, 3) := by decide +kernel
theorem dX9_build_36 : decode cX9_build 36 = .ok (.aload_n 0, 1) := by decide +kernel
theorem dX9_build_37 : decode cX9_build 37 = .ok (.getfield 81, 3) := by decide +kernel
theorem dX9_build_40 : decode cX9_build 40 = .ok (.invokevirtual 120, 3) := by decide +kernel
theorem dX9_build_43 : decode cX9_build 43 = .ok (.aload_n 0, 1) := by decide +kernel
theorem dX9_build_44 : decode cX9_build 44 = .ok (.invokevirtual 121, 3) := by decide +kernel
theorem dX9_build_47 : decode cX9_build 47 = .ok (.aload_n 0, 1) := by decide +kernel
theorem dX9_build_48 : decode cX9_build 48 = .ok (.getfield 19, 3) := by decide +kernel
theorem dX9_build_51 : decode cX9_build 51 = .ok (.getfield 124, 3) := by decide +kernel
theorem dX9_build_54 : decode cX9_build 54 = .ok (.ireturn, 1) := by decide +kernel
theorem dX9_booked_0 : decode cX9_booked 0 = .ok (.iload_n 1, 1) := by decide +kernel
theorem dX9_booked_1 : decode cX9_booked 1 = .ok (.iconst 0, 1) := by decide +kernel
theorem dX9_booked_2 : decode cX9_booked 2 = .ok (.iconst 3, 1) := by decide +kernel
theorem dX9_booked_3 : decode cX9_booked 3 = .ok (.invokestatic 99, 3) := by decide +kernel
theorem dX9_booked_6 : decode cX9_booked 6 = .ok (.ifCond .eq 7, 3) := by decide +kernel
theorem dX9_booked_9 : decode cX9_booked 9 = .ok (.iconst (-1), 1) := by decide +kernel
theorem dX9_booked_10 : decode cX9_booked 10 = .ok (.goto 12, 3) := by decide +kernel
theorem dX9_booked_13 : decode cX9_booked 13 = .ok (.aload_n 0, 1) := by decide +kernel
theorem dX9_booked_14 : decode cX9_booked 14 = .ok (.getfield 88, 3) := by decide +kernel
theorem dX9_booked_17 : decode cX9_booked 17 = .ok (.getfield 283, 3) := by decide +kernel
theorem dX9_booked_20 : decode cX9_booked 20 = .ok (.iload_n 1, 1) := by decide +kernel
theorem dX9_booked_21 : decode cX9_booked 21 = .ok (.iaload, 1) := by decide +kernel
theorem dX9_booked_22 : decode cX9_booked 22 = .ok (.ireturn, 1) := by decide +kernel
theorem dX9_peak_0 : decode cX9_peak 0 = .ok (.iload_n 1, 1) := by decide +kernel
theorem dX9_peak_1 : decode cX9_peak 1 = .ok (.invokestatic 205, 3) := by decide +kernel
theorem dX9_peak_4 : decode cX9_peak 4 = .ok (.ifCond .ne 22, 3) := by decide +kernel
theorem dX9_peak_7 : decode cX9_peak 7 = .ok (.iload_n 2, 1) := by decide +kernel
theorem dX9_peak_8 : decode cX9_peak 8 = .ok (.iconst 1, 1) := by decide +kernel
theorem dX9_peak_9 : decode cX9_peak 9 = .ok (.bipush 24, 2) := by decide +kernel
theorem dX9_peak_11 : decode cX9_peak 11 = .ok (.invokestatic 99, 3) := by decide +kernel
theorem dX9_peak_14 : decode cX9_peak 14 = .ok (.ifCond .ne 12, 3) := by decide +kernel
theorem dX9_peak_17 : decode cX9_peak 17 = .ok (.iload_n 3, 1) := by decide +kernel
theorem dX9_peak_18 : decode cX9_peak 18 = .ok (.iconst (-1), 1) := by decide +kernel
theorem dX9_peak_19 : decode cX9_peak 19 = .ok (.iconst 3, 1) := by decide +kernel
theorem dX9_peak_20 : decode cX9_peak 20 = .ok (.invokestatic 99, 3) := by decide +kernel
theorem dX9_peak_23 : decode cX9_peak 23 = .ok (.ifCond .eq 7, 3) := by decide +kernel
theorem dX9_peak_26 : decode cX9_peak 26 = .ok (.ldc2_w 158, 3) := by decide +kernel
theorem dX9_peak_29 : decode cX9_peak 29 = .ok (.lreturn, 1) := by decide +kernel
theorem dX9_peak_30 : decode cX9_peak 30 = .ok (.aload_n 0, 1) := by decide +kernel
theorem dX9_peak_31 : decode cX9_peak 31 = .ok (.iload_n 1, 1) := by decide +kernel
theorem dX9_peak_32 : decode cX9_peak 32 = .ok (.invokevirtual 212, 3) := by decide +kernel
theorem dX9_peak_35 : decode cX9_peak 35 = .ok (.ifCond .ne 11, 3) := by decide +kernel
theorem dX9_peak_38 : decode cX9_peak 38 = .ok (.aload_n 0, 1) := by decide +kernel
theorem dX9_peak_39 : decode cX9_peak 39 = .ok (.iload_n 2, 1) := by decide +kernel
theorem dX9_peak_40 : decode cX9_peak 40 = .ok (.invokevirtual 265, 3) := by decide +kernel
theorem dX9_peak_43 : decode cX9_peak 43 = .ok (.ifCond .eq 9, 3) := by decide +kernel
theorem dX9_peak_46 : decode cX9_peak 46 = .ok (.ldc2_w 163, 3) := by decide +kernel
theorem dX9_peak_49 : decode cX9_peak 49 = .ok (.goto 10, 3) := by decide +kernel
theorem dX9_peak_52 : decode cX9_peak 52 = .ok (.aload_n 0, 1) := by decide +kernel
theorem dX9_peak_53 : decode cX9_peak 53 = .ok (.iload_n 1, 1) := by decide +kernel
theorem dX9_peak_54 : decode cX9_peak 54 = .ok (.iload_n 2, 1) := by decide +kernel
theorem dX9_peak_55 : decode cX9_peak 55 = .ok (.iload_n 3, 1) := by decide +kernel
theorem dX9_peak_56 : decode cX9_peak 56 = .ok (.invokevirtual 275, 3) := by decide +kernel
theorem dX9_peak_59 : decode cX9_peak 59 = .ok (.lreturn, 1) := by decide +kernel
theorem dX9_best_0 : decode cX9_best 0 = .ok (.iload_n 1, 1) := by decide +kernel
theorem dX9_best_1 : decode cX9_best 1 = .ok (.invokestatic 176, 3) := by decide +kernel
theorem dX9_best_4 : decode cX9_best 4 = .ok (.ifCond .ne 20, 3) := by decide +kernel
theorem dX9_best_7 : decode cX9_best 7 = .ok (.iload_n 2, 1) := by decide +kernel
theorem dX9_best_8 : decode cX9_best 8 = .ok (.iconst 1, 1) := by decide +kernel
theorem dX9_best_9 : decode cX9_best 9 = .ok (.bipush 6, 2) := by decide +kernel
theorem dX9_best_11 : decode cX9_best 11 = .ok (.invokestatic 99, 3) := by decide +kernel
theorem dX9_best_14 : decode cX9_best 14 = .ok (.ifCond .ne 10, 3) := by decide +kernel
theorem dX9_best_17 : decode cX9_best 17 = .ok (.iload_n 3, 1) := by decide +kernel
theorem dX9_best_18 : decode cX9_best 18 = .ok (.invokestatic 205, 3) := by decide +kernel
theorem dX9_best_21 : decode cX9_best 21 = .ok (.ifCond .eq 7, 3) := by decide +kernel
theorem dX9_best_24 : decode cX9_best 24 = .ok (.ldc2_w 158, 3) := by decide +kernel
theorem dX9_best_27 : decode cX9_best 27 = .ok (.lreturn, 1) := by decide +kernel
theorem dX9_best_28 : decode cX9_best 28 = .ok (.iload 4, 2) := by decide +kernel
theorem dX9_best_30 : decode cX9_best 30 = .ok (.invokestatic 155, 3) := by decide +kernel
theorem dX9_best_33 : decode cX9_best 33 = .ok (.ifCond .ne 13, 3) := by decide +kernel
theorem dX9_best_36 : decode cX9_best 36 = .ok (.iload 7, 2) := by decide +kernel
theorem dX9_best_38 : decode cX9_best 38 = .ok (.iconst (-1), 1) := by decide +kernel
theorem dX9_best_39 : decode cX9_best 39 = .ok (.iconst 3, 1) := by decide +kernel
theorem dX9_best_40 : decode cX9_best 40 = .ok (.invokestatic 99, 3) := by decide +kernel
theorem dX9_best_43 : decode cX9_best 43 = .ok (.ifCond .eq 7, 3) := by decide +kernel
theorem dX9_best_46 : decode cX9_best 46 = .ok (.ldc2_w 158, 3) := by decide +kernel
theorem dX9_best_49 : decode cX9_best 49 = .ok (.lreturn, 1) := by decide +kernel
theorem dX9_best_50 : decode cX9_best 50 = .ok (.aload_n 0, 1) := by decide +kernel
theorem dX9_best_51 : decode cX9_best 51 = .ok (.iload_n 1, 1) := by decide +kernel
theorem dX9_best_52 : decode cX9_best 52 = .ok (.invokevirtual 179, 3) := by decide +kernel
theorem dX9_best_55 : decode cX9_best 55 = .ok (.ifCond .ne 30, 3) := by decide +kernel
theorem dX9_best_58 : decode cX9_best 58 = .ok (.aload_n 0, 1) := by decide +kernel
theorem dX9_best_59 : decode cX9_best 59 = .ok (.iload_n 3, 1) := by decide +kernel
theorem dX9_best_60 : decode cX9_best 60 = .ok (.invokevirtual 212, 3) := by decide +kernel
theorem dX9_best_63 : decode cX9_best 63 = .ok (.ifCond .ne 22, 3) := by decide +kernel
theorem dX9_best_66 : decode cX9_best 66 = .ok (.aload_n 0, 1) := by decide +kernel
theorem dX9_best_67 : decode cX9_best 67 = .ok (.iload 4, 2) := by decide +kernel
theorem dX9_best_69 : decode cX9_best 69 = .ok (.invokevirtual 160, 3) := by decide +kernel
theorem dX9_best_72 : decode cX9_best 72 = .ok (.ifCond .ne 13, 3) := by decide +kernel
theorem dX9_best_75 : decode cX9_best 75 = .ok (.aload_n 0, 1) := by decide +kernel
theorem dX9_best_76 : decode cX9_best 76 = .ok (.iconst 4, 1) := by decide +kernel
theorem dX9_best_77 : decode cX9_best 77 = .ok (.iload_n 2, 1) := by decide +kernel
theorem dX9_best_78 : decode cX9_best 78 = .ok (.imul, 1) := by decide +kernel
theorem dX9_best_79 : decode cX9_best 79 = .ok (.invokevirtual 265, 3) := by decide +kernel
theorem dX9_best_82 : decode cX9_best 82 = .ok (.ifCond .eq 7, 3) := by decide +kernel
theorem dX9_best_85 : decode cX9_best 85 = .ok (.ldc2_w 163, 3) := by decide +kernel
theorem dX9_best_88 : decode cX9_best 88 = .ok (.lreturn, 1) := by decide +kernel
theorem dX9_best_89 : decode cX9_best 89 = .ok (.aload_n 0, 1) := by decide +kernel
theorem dX9_best_90 : decode cX9_best 90 = .ok (.getfield 95, 3) := by decide +kernel
theorem dX9_best_93 : decode cX9_best 93 = .ok (.iload_n 1, 1) := by decide +kernel
theorem dX9_best_94 : decode cX9_best 94 = .ok (.iload_n 2, 1) := by decide +kernel
theorem dX9_best_95 : decode cX9_best 95 = .ok (.iload_n 3, 1) := by decide +kernel
theorem dX9_best_96 : decode cX9_best 96 = .ok (.iload 4, 2) := by decide +kernel
theorem dX9_best_98 : decode cX9_best 98 = .ok (.lload 5, 2) := by decide +kernel
theorem dX9_best_100 : decode cX9_best 100 = .ok (.invokevirtual 286, 3) := by decide +kernel
theorem dX9_best_103 : decode cX9_best 103 = .ok (.aload_n 0, 1) := by decide +kernel
theorem dX9_best_104 : decode cX9_best 104 = .ok (.getfield 95, 3) := by decide +kernel
theorem dX9_best_107 : decode cX9_best 107 = .ok (.aload_n 0, 1) := by decide +kernel
theorem dX9_best_108 : decode cX9_best 108 = .ok (.getfield 19, 3) := by decide +kernel
theorem dX9_best_111 : decode cX9_best 111 = .ok (.aload_n 0, 1) := by decide +kernel
theorem dX9_best_112 : decode cX9_best 112 = .ok (.getfield 39, 3) := by decide +kernel
theorem dX9_best_115 : decode cX9_best 115 = .ok (.aload_n 0, 1) := by decide +kernel
theorem dX9_best_116 : decode cX9_best 116 = .ok (.getfield 74, 3) := by decide +kernel
theorem dX9_best_119 : decode cX9_best 119 = .ok (.aload_n 0, 1) := by decide +kernel
theorem dX9_best_120 : decode cX9_best 120 = .ok (.getfield 53, 3) := by decide +kernel
theorem dX9_best_123 : decode cX9_best 123 = .ok (.iconst 0, 1) := by decide +kernel
theorem dX9_best_124 : decode cX9_best 124 = .ok (.lconst 0, 1) := by decide +kernel
theorem dX9_best_125 : decode cX9_best 125 = .ok (.invokevirtual 290, 3) := by decide +kernel
theorem dX9_best_128 : decode cX9_best 128 = .ok (.aload_n 0, 1) := by decide +kernel
theorem dX9_best_129 : decode cX9_best 129 = .ok (.getfield 95, 3) := by decide +kernel
theorem dX9_best_132 : decode cX9_best 132 = .ok (.getfield 294, 3) := by decide +kernel
theorem dX9_best_135 : decode cX9_best 135 = .ok (.ifCond .ne 7, 3) := by decide +kernel
theorem dX9_best_138 : decode cX9_best 138 = .ok (.ldc2_w 297, 3) := by decide +kernel
theorem dX9_best_141 : decode cX9_best 141 = .ok (.lreturn, 1) := by decide +kernel
theorem dX9_best_142 : decode cX9_best 142 = .ok (.iload 7, 2) := by decide +kernel
theorem dX9_best_144 : decode cX9_best 144 = .ok (.ifCond .ge 13, 3) := by decide +kernel
theorem dX9_best_147 : decode cX9_best 147 = .ok (.aload_n 0, 1) := by decide +kernel
theorem dX9_best_148 : decode cX9_best 148 = .ok (.getfield 95, 3) := by decide +kernel
theorem dX9_best_151 : decode cX9_best 151 = .ok (.getfield 299, 3) := by decide +kernel
theorem dX9_best_154 : decode cX9_best 154 = .ok (.goto 14, 3) := by decide +kernel
theorem dX9_best_157 : decode cX9_best 157 = .ok (.aload_n 0, 1) := by decide +kernel
theorem dX9_best_158 : decode cX9_best 158 = .ok (.getfield 95, 3) := by decide +kernel
theorem dX9_best_161 : decode cX9_best 161 = .ok (.getfield 302, 3) := by decide +kernel
theorem dX9_best_164 : decode cX9_best 164 = .ok (.iload 7, 2) := by decide +kernel
theorem dX9_best_166 : decode cX9_best 166 = .ok (.iaload, 1) := by decide +kernel
theorem dX9_best_167 : decode cX9_best 167 = .ok (.i2l, 1) := by decide +kernel
theorem dX9_best_168 : decode cX9_best 168 = .ok (.lreturn, 1) := by decide +kernel
theorem dX9_swap_0 : decode cX9_swap 0 = .ok (.iload_n 1, 1) := by decide +kernel
theorem dX9_swap_1 : decode cX9_swap 1 = .ok (.invokestatic 127, 3) := by decide +kernel
theorem dX9_swap_4 : decode cX9_swap 4 = .ok (.ifCond .eq 5, 3) := by decide +kernel
theorem dX9_swap_7 : decode cX9_swap 7 = .ok (.iconst (-1), 1) := by decide +kernel
theorem dX9_swap_8 : decode cX9_swap 8 = .ok (.ireturn, 1) := by decide +kernel
theorem dX9_swap_9 : decode cX9_swap 9 = .ok (.aload_n 0, 1) := by decide +kernel
theorem dX9_swap_10 : decode cX9_swap 10 = .ok (.iload_n 1, 1) := by decide +kernel
theorem dX9_swap_11 : decode cX9_swap 11 = .ok (.invokevirtual 131, 3) := by decide +kernel
theorem dX9_swap_14 : decode cX9_swap 14 = .ok (.ifCond .ne 31, 3) := by decide +kernel
theorem dX9_swap_17 : decode cX9_swap 17 = .ok (.aload_n 0, 1) := by decide +kernel
theorem dX9_swap_18 : decode cX9_swap 18 = .ok (.getfield 10, 3) := by decide +kernel
theorem dX9_swap_21 : decode cX9_swap 21 = .ok (.invokevirtual 305, 3) := by decide +kernel
theorem dX9_swap_24 : decode cX9_swap 24 = .ok (.ifCond .eq 21, 3) := by decide +kernel
theorem dX9_swap_27 : decode cX9_swap 27 = .ok (.aload_n 0, 1) := by decide +kernel
theorem dX9_swap_28 : decode cX9_swap 28 = .ok (.getfield 19, 3) := by decide +kernel
theorem dX9_swap_31 : decode cX9_swap 31 = .ok (.iload_n 1, 1) := by decide +kernel
theorem dX9_swap_32 : decode cX9_swap 32 = .ok (.aload_n 0, 1) := by decide +kernel
theorem dX9_swap_33 : decode cX9_swap 33 = .ok (.getfield 10, 3) := by decide +kernel
theorem dX9_swap_36 : decode cX9_swap 36 = .ok (.getfield 309, 3) := by decide +kernel
theorem dX9_swap_39 : decode cX9_swap 39 = .ok (.invokevirtual 312, 3) := by decide +kernel
theorem dX9_swap_42 : decode cX9_swap 42 = .ok (.ifCond .ne 6, 3) := by decide +kernel
theorem dX9_swap_45 : decode cX9_swap 45 = .ok (.bipush (-2), 2) := by decide +kernel
theorem dX9_swap_47 : decode cX9_swap 47 = .ok (.ireturn, 1) := by decide +kernel
theorem dX9_swap_48 : decode cX9_swap 48 = .ok (.aload_n 0, 1) := by decide +kernel
theorem dX9_swap_49 : decode cX9_swap 49 = .ok (.getfield 26, 3) := by decide +kernel
theorem dX9_swap_52 : decode cX9_swap 52 = .ok (.aload_n 0, 1) := by decide +kernel
theorem dX9_swap_53 : decode cX9_swap 53 = .ok (.getfield 19, 3) := by decide +kernel
theorem dX9_swap_56 : decode cX9_swap 56 = .ok (.invokevirtual 316, 3) := by decide +kernel
theorem dX9_swap_59 : decode cX9_swap 59 = .ok (.aload_n 0, 1) := by decide +kernel
theorem dX9_swap_60 : decode cX9_swap 60 = .ok (.getfield 26, 3) := by decide +kernel
theorem dX9_swap_63 : decode cX9_swap 63 = .ok (.iload_n 1, 1) := by decide +kernel
theorem dX9_swap_64 : decode cX9_swap 64 = .ok (.aload_n 0, 1) := by decide +kernel
theorem dX9_swap_65 : decode cX9_swap 65 = .ok (.getfield 10, 3) := by decide +kernel
theorem dX9_swap_68 : decode cX9_swap 68 = .ok (.getfield 309, 3) := by decide +kernel
theorem dX9_swap_71 : decode cX9_swap 71 = .ok (.invokevirtual 319, 3) := by decide +kernel
theorem dX9_swap_74 : decode cX9_swap 74 = .ok (.aload_n 0, 1) := by decide +kernel
theorem dX9_swap_75 : decode cX9_swap 75 = .ok (.iconst 1, 1) := by decide +kernel
theorem dX9_swap_76 : decode cX9_swap 76 = .ok (.putfield 33, 3) := by decide +kernel
theorem dX9_swap_79 : decode cX9_swap 79 = .ok (.iconst 0, 1) := by decide +kernel
theorem dX9_swap_80 : decode cX9_swap 80 = .ok (.ireturn, 1) := by decide +kernel
theorem dX9_swapped_0 : decode cX9_swapped 0 = .ok (.iload_n 1, 1) := by decide +kernel
theorem dX9_swapped_1 : decode cX9_swapped 1 = .ok (.invokestatic 205, 3) := by decide +kernel
theorem dX9_swapped_4 : decode cX9_swapped 4 = .ok (.ifCond .ne 22, 3) := by decide +kernel
theorem dX9_swapped_7 : decode cX9_swapped 7 = .ok (.iload_n 2, 1) := by decide +kernel
theorem dX9_swapped_8 : decode cX9_swapped 8 = .ok (.iconst 1, 1) := by decide +kernel
theorem dX9_swapped_9 : decode cX9_swapped 9 = .ok (.bipush 96, 2) := by decide +kernel
theorem dX9_swapped_11 : decode cX9_swapped 11 = .ok (.invokestatic 99, 3) := by decide +kernel
theorem dX9_swapped_14 : decode cX9_swapped 14 = .ok (.ifCond .ne 12, 3) := by decide +kernel
theorem dX9_swapped_17 : decode cX9_swapped 17 = .ok (.iload_n 3, 1) := by decide +kernel
theorem dX9_swapped_18 : decode cX9_swapped 18 = .ok (.iconst 0, 1) := by decide +kernel
theorem dX9_swapped_19 : decode cX9_swapped 19 = .ok (.iconst 1, 1) := by decide +kernel
theorem dX9_swapped_20 : decode cX9_swapped 20 = .ok (.invokestatic 99, 3) := by decide +kernel
theorem dX9_swapped_23 : decode cX9_swapped 23 = .ok (.ifCond .eq 7, 3) := by decide +kernel
theorem dX9_swapped_26 : decode cX9_swapped 26 = .ok (.ldc2_w 158, 3) := by decide +kernel
theorem dX9_swapped_29 : decode cX9_swapped 29 = .ok (.lreturn, 1) := by decide +kernel
theorem dX9_swapped_30 : decode cX9_swapped 30 = .ok (.aload_n 0, 1) := by decide +kernel
theorem dX9_swapped_31 : decode cX9_swapped 31 = .ok (.getfield 33, 3) := by decide +kernel
theorem dX9_swapped_34 : decode cX9_swapped 34 = .ok (.ifCond .eq 11, 3) := by decide +kernel
theorem dX9_swapped_37 : decode cX9_swapped 37 = .ok (.aload_n 0, 1) := by decide +kernel
theorem dX9_swapped_38 : decode cX9_swapped 38 = .ok (.iload_n 1, 1) := by decide +kernel
theorem dX9_swapped_39 : decode cX9_swapped 39 = .ok (.invokevirtual 212, 3) := by decide +kernel
theorem dX9_swapped_42 : decode cX9_swapped 42 = .ok (.ifCond .eq 7, 3) := by decide +kernel
theorem dX9_swapped_45 : decode cX9_swapped 45 = .ok (.ldc2_w 163, 3) := by decide +kernel
theorem dX9_swapped_48 : decode cX9_swapped 48 = .ok (.lreturn, 1) := by decide +kernel
theorem dX9_swapped_49 : decode cX9_swapped 49 = .ok (.aload_n 0, 1) := by decide +kernel
theorem dX9_swapped_50 : decode cX9_swapped 50 = .ok (.getfield 57, 3) := by decide +kernel
theorem dX9_swapped_53 : decode cX9_swapped 53 = .ok (.aload_n 0, 1) := by decide +kernel
theorem dX9_swapped_54 : decode cX9_swapped 54 = .ok (.getfield 19, 3) := by decide +kernel
theorem dX9_swapped_57 : decode cX9_swapped 57 = .ok (.invokevirtual 147, 3) := by decide +kernel
theorem dX9_swapped_60 : decode cX9_swapped 60 = .ok (.aload_n 0, 1) := by decide +kernel
theorem dX9_swapped_61 : decode cX9_swapped 61 = .ok (.getfield 60, 3) := by decide +kernel
theorem dX9_swapped_64 : decode cX9_swapped 64 = .ok (.aload_n 0, 1) := by decide +kernel
theorem dX9_swapped_65 : decode cX9_swapped 65 = .ok (.getfield 26, 3) := by decide +kernel
theorem dX9_swapped_68 : decode cX9_swapped 68 = .ok (.invokevirtual 147, 3) := by decide +kernel
theorem dX9_swapped_71 : decode cX9_swapped 71 = .ok (.lconst 0, 1) := by decide +kernel
theorem dX9_swapped_72 : decode cX9_swapped 72 = .ok (.lstore 4, 2) := by decide +kernel
theorem dX9_swapped_74 : decode cX9_swapped 74 = .ok (.iconst 0, 1) := by decide +kernel
theorem dX9_swapped_75 : decode cX9_swapped 75 = .ok (.istore 6, 2) := by decide +kernel
theorem dX9_swapped_77 : decode cX9_swapped 77 = .ok (.iload 6, 2) := by decide +kernel
theorem dX9_swapped_79 : decode cX9_swapped 79 = .ok (.iload_n 2, 1) := by decide +kernel
theorem dX9_swapped_80 : decode cX9_swapped 80 = .ok (.if_icmp .ge 88, 3) := by decide +kernel
theorem dX9_swapped_83 : decode cX9_swapped 83 = .ok (.aload_n 0, 1) := by decide +kernel
theorem dX9_swapped_84 : decode cX9_swapped 84 = .ok (.getfield 57, 3) := by decide +kernel
theorem dX9_swapped_87 : decode cX9_swapped 87 = .ok (.aload_n 0, 1) := by decide +kernel
theorem dX9_swapped_88 : decode cX9_swapped 88 = .ok (.getfield 19, 3) := by decide +kernel
theorem dX9_swapped_91 : decode cX9_swapped 91 = .ok (.aload_n 0, 1) := by decide +kernel
theorem dX9_swapped_92 : decode cX9_swapped 92 = .ok (.getfield 39, 3) := by decide +kernel
theorem dX9_swapped_95 : decode cX9_swapped 95 = .ok (.invokevirtual 151, 3) := by decide +kernel
theorem dX9_swapped_98 : decode cX9_swapped 98 = .ok (.aload_n 0, 1) := by decide +kernel
theorem dX9_swapped_99 : decode cX9_swapped 99 = .ok (.getfield 60, 3) := by decide +kernel
theorem dX9_swapped_102 : decode cX9_swapped 102 = .ok (.aload_n 0, 1) := by decide +kernel
theorem dX9_swapped_103 : decode cX9_swapped 103 = .ok (.getfield 26, 3) := by decide +kernel
theorem dX9_swapped_106 : decode cX9_swapped 106 = .ok (.aload_n 0, 1) := by decide +kernel
theorem dX9_swapped_107 : decode cX9_swapped 107 = .ok (.getfield 39, 3) := by decide +kernel
theorem dX9_swapped_110 : decode cX9_swapped 110 = .ok (.invokevirtual 151, 3) := by decide +kernel
theorem dX9_swapped_113 : decode cX9_swapped 113 = .ok (.aload_n 0, 1) := by decide +kernel
theorem dX9_swapped_114 : decode cX9_swapped 114 = .ok (.getfield 74, 3) := by decide +kernel
theorem dX9_swapped_117 : decode cX9_swapped 117 = .ok (.aload_n 0, 1) := by decide +kernel
theorem dX9_swapped_118 : decode cX9_swapped 118 = .ok (.getfield 60, 3) := by decide +kernel
theorem dX9_swapped_121 : decode cX9_swapped 121 = .ok (.iload_n 1, 1) := by decide +kernel
theorem dX9_swapped_122 : decode cX9_swapped 122 = .ok (.invokevirtual 215, 3) := by decide +kernel
theorem dX9_swapped_125 : decode cX9_swapped 125 = .ok (.aload_n 0, 1) := by decide +kernel
theorem dX9_swapped_126 : decode cX9_swapped 126 = .ok (.getfield 74, 3) := by decide +kernel
theorem dX9_swapped_129 : decode cX9_swapped 129 = .ok (.aload_n 0, 1) := by decide +kernel
theorem dX9_swapped_130 : decode cX9_swapped 130 = .ok (.getfield 57, 3) := by decide +kernel
theorem dX9_swapped_133 : decode cX9_swapped 133 = .ok (.iload_n 1, 1) := by decide +kernel
theorem dX9_swapped_134 : decode cX9_swapped 134 = .ok (.invokevirtual 215, 3) := by decide +kernel
theorem dX9_swapped_137 : decode cX9_swapped 137 = .ok (.lsub, 1) := by decide +kernel
theorem dX9_swapped_138 : decode cX9_swapped 138 = .ok (.lstore 7, 2) := by decide +kernel
theorem dX9_swapped_140 : decode cX9_swapped 140 = .ok (.iload_n 3, 1) := by decide +kernel
theorem dX9_swapped_141 : decode cX9_swapped 141 = .ok (.ifCond .ne 14, 3) := by decide +kernel
theorem dX9_swapped_144 : decode cX9_swapped 144 = .ok (.lload 7, 2) := by decide +kernel
theorem dX9_swapped_146 : decode cX9_swapped 146 = .ok (.lconst 0, 1) := by decide +kernel
theorem dX9_swapped_147 : decode cX9_swapped 147 = .ok (.lcmp, 1) := by decide +kernel
theorem dX9_swapped_148 : decode cX9_swapped 148 = .ok (.ifCond .eq 7, 3) := by decide +kernel
theorem dX9_swapped_151 : decode cX9_swapped 151 = .ok (.iload 6, 2) := by decide +kernel
theorem dX9_swapped_153 : decode cX9_swapped 153 = .ok (.i2l, 1) := by decide +kernel
theorem dX9_swapped_154 : decode cX9_swapped 154 = .ok (.lreturn, 1) := by decide +kernel
theorem dX9_swapped_155 : decode cX9_swapped 155 = .ok (.lload 4, 2) := by decide +kernel
theorem dX9_swapped_157 : decode cX9_swapped 157 = .ok (.lload 7, 2) := by decide +kernel
theorem dX9_swapped_159 : decode cX9_swapped 159 = .ok (.ladd, 1) := by decide +kernel
theorem dX9_swapped_160 : decode cX9_swapped 160 = .ok (.lstore 4, 2) := by decide +kernel
theorem dX9_swapped_162 : decode cX9_swapped 162 = .ok (.iinc 6 1, 3) := by decide +kernel
theorem dX9_swapped_165 : decode cX9_swapped 165 = .ok (.goto (-88), 3) := by decide +kernel
theorem dX9_swapped_168 : decode cX9_swapped 168 = .ok (.iload_n 3, 1) := by decide +kernel
theorem dX9_swapped_169 : decode cX9_swapped 169 = .ok (.ifCond .ne 9, 3) := by decide +kernel
theorem dX9_swapped_172 : decode cX9_swapped 172 = .ok (.ldc2_w 297, 3) := by decide +kernel
theorem dX9_swapped_175 : decode cX9_swapped 175 = .ok (.goto 5, 3) := by decide +kernel
theorem dX9_swapped_178 : decode cX9_swapped 178 = .ok (.lload 4, 2) := by decide +kernel
theorem dX9_swapped_180 : decode cX9_swapped 180 = .ok (.lreturn, 1) := by decide +kernel
theorem dX9_laySwap_0 : decode cX9_laySwap 0 = .ok (.aload_n 0, 1) := by decide +kernel
theorem dX9_laySwap_1 : decode cX9_laySwap 1 = .ok (.getfield 33, 3) := by decide +kernel
theorem dX9_laySwap_4 : decode cX9_laySwap 4 = .ok (.ifCond .ne 6, 3) := by decide +kernel
theorem dX9_laySwap_7 : decode cX9_laySwap 7 = .ok (.bipush (-2), 2) := by decide +kernel
theorem dX9_laySwap_9 : decode cX9_laySwap 9 = .ok (.ireturn, 1) := by decide +kernel
theorem dX9_laySwap_10 : decode cX9_laySwap 10 = .ok (.aload_n 0, 1) := by decide +kernel
theorem dX9_laySwap_11 : decode cX9_laySwap 11 = .ok (.getfield 23, 3) := by decide +kernel
theorem dX9_laySwap_14 : decode cX9_laySwap 14 = .ok (.aload_n 0, 1) := by decide +kernel
theorem dX9_laySwap_15 : decode cX9_laySwap 15 = .ok (.getfield 26, 3) := by decide +kernel
theorem dX9_laySwap_18 : decode cX9_laySwap 18 = .ok (.invokevirtual 316, 3) := by decide +kernel
theorem dX9_laySwap_21 : decode cX9_laySwap 21 = .ok (.aload_n 0, 1) := by decide +kernel
theorem dX9_laySwap_22 : decode cX9_laySwap 22 = .ok (.invokevirtual 121, 3) := by decide +kernel
theorem dX9_laySwap_25 : decode cX9_laySwap 25 = .ok (.iconst 0, 1) := by decide +kernel
theorem dX9_laySwap_26 : decode cX9_laySwap 26 = .ok (.ireturn, 1) := by decide +kernel
theorem dX9_startB_0 : decode cX9_startB 0 = .ok (.iload_n 1, 1) := by decide +kernel
theorem dX9_startB_1 : decode cX9_startB 1 = .ok (.invokestatic 155, 3) := by decide +kernel
theorem dX9_startB_4 : decode cX9_startB 4 = .ok (.ifCond .ne 13, 3) := by decide +kernel
theorem dX9_startB_7 : decode cX9_startB 7 = .ok (.iload_n 2, 1) := by decide +kernel
theorem dX9_startB_8 : decode cX9_startB 8 = .ok (.iconst 0, 1) := by decide +kernel
theorem dX9_startB_9 : decode cX9_startB 9 = .ok (.ldc 231, 2) := by decide +kernel
theorem dX9_startB_11 : decode cX9_startB 11 = .ok (.invokestatic 99, 3) := by decide +kernel
theorem dX9_startB_14 : decode cX9_startB 14 = .ok (.ifCond .eq 5, 3) := by decide +kernel
theorem dX9_startB_17 : decode cX9_startB 17 = .ok (.iconst (-1), 1) := by decide +kernel
theorem dX9_startB_18 : decode cX9_startB 18 = .ok (.ireturn, 1) := by decide +kernel
theorem dX9_startB_19 : decode cX9_startB 19 = .ok (.aload_n 0, 1) := by decide +kernel
theorem dX9_startB_20 : decode cX9_startB 20 = .ok (.iload_n 1, 1) := by decide +kernel
theorem dX9_startB_21 : decode cX9_startB 21 = .ok (.invokevirtual 160, 3) := by decide +kernel
theorem dX9_startB_24 : decode cX9_startB 24 = .ok (.ifCond .eq 6, 3) := by decide +kernel
theorem dX9_startB_27 : decode cX9_startB 27 = .ok (.bipush (-2), 2) := by decide +kernel
theorem dX9_startB_29 : decode cX9_startB 29 = .ok (.ireturn, 1) := by decide +kernel
theorem dX9_startB_30 : decode cX9_startB 30 = .ok (.aload_n 0, 1) := by decide +kernel
theorem dX9_startB_31 : decode cX9_startB 31 = .ok (.getfield 46, 3) := by decide +kernel
theorem dX9_startB_34 : decode cX9_startB 34 = .ok (.iload_n 1, 1) := by decide +kernel
theorem dX9_startB_35 : decode cX9_startB 35 = .ok (.iaload, 1) := by decide +kernel
theorem dX9_startB_36 : decode cX9_startB 36 = .ok (.istore_n 3, 1) := by decide +kernel
theorem dX9_startB_37 : decode cX9_startB 37 = .ok (.aload_n 0, 1) := by decide +kernel
theorem dX9_startB_38 : decode cX9_startB 38 = .ok (.getfield 46, 3) := by decide +kernel
theorem dX9_startB_41 : decode cX9_startB 41 = .ok (.iload_n 1, 1) := by decide +kernel
theorem dX9_startB_42 : decode cX9_startB 42 = .ok (.iload_n 2, 1) := by decide +kernel
theorem dX9_startB_43 : decode cX9_startB 43 = .ok (.iastore, 1) := by decide +kernel
theorem dX9_startB_44 : decode cX9_startB 44 = .ok (.iload_n 3, 1) := by decide +kernel
theorem dX9_startB_45 : decode cX9_startB 45 = .ok (.ireturn, 1) := by decide +kernel
theorem dX9_blame_0 : decode cX9_blame 0 = .ok (.iload_n 1, 1) := by decide +kernel
theorem dX9_blame_1 : decode cX9_blame 1 = .ok (.invokestatic 205, 3) := by decide +kernel
theorem dX9_blame_4 : decode cX9_blame 4 = .ok (.ifCond .ne 22, 3) := by decide +kernel
theorem dX9_blame_7 : decode cX9_blame 7 = .ok (.iload_n 2, 1) := by decide +kernel
theorem dX9_blame_8 : decode cX9_blame 8 = .ok (.iconst 0, 1) := by decide +kernel
theorem dX9_blame_9 : decode cX9_blame 9 = .ok (.bipush 95, 2) := by decide +kernel
theorem dX9_blame_11 : decode cX9_blame 11 = .ok (.invokestatic 99, 3) := by decide +kernel
theorem dX9_blame_14 : decode cX9_blame 14 = .ok (.ifCond .ne 12, 3) := by decide +kernel
theorem dX9_blame_17 : decode cX9_blame 17 = .ok (.iload_n 3, 1) := by decide +kernel
theorem dX9_blame_18 : decode cX9_blame 18 = .ok (.iconst 0, 1) := by decide +kernel
theorem dX9_blame_19 : decode cX9_blame 19 = .ok (.iconst 3, 1) := by decide +kernel
theorem dX9_blame_20 : decode cX9_blame 20 = .ok (.invokestatic 99, 3) := by decide +kernel
theorem dX9_blame_23 : decode cX9_blame 23 = .ok (.ifCond .eq 7, 3) := by decide +kernel
theorem dX9_blame_26 : decode cX9_blame 26 = .ok (.ldc2_w 323, 3) := by decide +kernel
theorem dX9_blame_29 : decode cX9_blame 29 = .ok (.lreturn, 1) := by decide +kernel
theorem dX9_blame_30 : decode cX9_blame 30 = .ok (.aload_n 0, 1) := by decide +kernel
theorem dX9_blame_31 : decode cX9_blame 31 = .ok (.iload_n 1, 1) := by decide +kernel
theorem dX9_blame_32 : decode cX9_blame 32 = .ok (.invokevirtual 212, 3) := by decide +kernel
theorem dX9_blame_35 : decode cX9_blame 35 = .ok (.ifCond .eq 7, 3) := by decide +kernel
theorem dX9_blame_38 : decode cX9_blame 38 = .ok (.ldc2_w 325, 3) := by decide +kernel
theorem dX9_blame_41 : decode cX9_blame 41 = .ok (.lreturn, 1) := by decide +kernel
theorem dX9_blame_42 : decode cX9_blame 42 = .ok (.iload_n 3, 1) := by decide +kernel
theorem dX9_blame_43 : decode cX9_blame 43 = .ok (.iconst 3, 1) := by decide +kernel
theorem dX9_blame_44 : decode cX9_blame 44 = .ok (.if_icmp .ne 19, 3) := by decide +kernel
theorem dX9_blame_47 : decode cX9_blame 47 = .ok (.aload_n 0, 1) := by decide +kernel
theorem dX9_blame_48 : decode cX9_blame 48 = .ok (.iconst 3, 1) := by decide +kernel
theorem dX9_blame_49 : decode cX9_blame 49 = .ok (.iload_n 1, 1) := by decide +kernel
theorem dX9_blame_50 : decode cX9_blame 50 = .ok (.iload_n 2, 1) := by decide +kernel
theorem dX9_blame_51 : decode cX9_blame 51 = .ok (.invokevirtual 327, 3) := by decide +kernel
theorem dX9_blame_54 : decode cX9_blame 54 = .ok (.aload_n 0, 1) := by decide +kernel
theorem dX9_blame_55 : decode cX9_blame 55 = .ok (.iconst 0, 1) := by decide +kernel
theorem dX9_blame_56 : decode cX9_blame 56 = .ok (.iload_n 1, 1) := by decide +kernel
theorem dX9_blame_57 : decode cX9_blame 57 = .ok (.iload_n 2, 1) := by decide +kernel
theorem dX9_blame_58 : decode cX9_blame 58 = .ok (.invokevirtual 327, 3) := by decide +kernel
theorem dX9_blame_61 : decode cX9_blame 61 = .ok (.lsub, 1) := by decide +kernel
theorem dX9_blame_62 : decode cX9_blame 62 = .ok (.lreturn, 1) := by decide +kernel
theorem dX9_blame_63 : decode cX9_blame 63 = .ok (.aload_n 0, 1) := by decide +kernel
theorem dX9_blame_64 : decode cX9_blame 64 = .ok (.iload_n 3, 1) := by decide +kernel
theorem dX9_blame_65 : decode cX9_blame 65 = .ok (.iconst 1, 1) := by decide +kernel
theorem dX9_blame_66 : decode cX9_blame 66 = .ok (.iadd, 1) := by decide +kernel
theorem dX9_blame_67 : decode cX9_blame 67 = .ok (.iload_n 1, 1) := by decide +kernel
theorem dX9_blame_68 : decode cX9_blame 68 = .ok (.iload_n 2, 1) := by decide +kernel
theorem dX9_blame_69 : decode cX9_blame 69 = .ok (.invokevirtual 327, 3) := by decide +kernel
theorem dX9_blame_72 : decode cX9_blame 72 = .ok (.aload_n 0, 1) := by decide +kernel
theorem dX9_blame_73 : decode cX9_blame 73 = .ok (.iload_n 3, 1) := by decide +kernel
theorem dX9_blame_74 : decode cX9_blame 74 = .ok (.iload_n 1, 1) := by decide +kernel
theorem dX9_blame_75 : decode cX9_blame 75 = .ok (.iload_n 2, 1) := by decide +kernel
theorem dX9_blame_76 : decode cX9_blame 76 = .ok (.invokevirtual 327, 3) := by decide +kernel
theorem dX9_blame_79 : decode cX9_blame 79 = .ok (.lsub, 1) := by decide +kernel
theorem dX9_blame_80 : decode cX9_blame 80 = .ok (.lreturn, 1) := by decide +kernel
theorem dX9_keep_0 : decode cX9_keep 0 = .ok (.aload_n 0, 1) := by decide +kernel
theorem dX9_keep_1 : decode cX9_keep 1 = .ok (.getfield 29, 3) := by decide +kernel
theorem dX9_keep_4 : decode cX9_keep 4 = .ok (.ifCond .ne 6, 3) := by decide +kernel
theorem dX9_keep_7 : decode cX9_keep 7 = .ok (.bipush (-2), 2) := by decide +kernel
theorem dX9_keep_9 : decode cX9_keep 9 = .ok (.ireturn, 1) := by decide +kernel
theorem dX9_keep_10 : decode cX9_keep 10 = .ok (.aload_n 0, 1) := by decide +kernel
theorem dX9_keep_11 : decode cX9_keep 11 = .ok (.getfield 67, 3) := by decide +kernel
theorem dX9_keep_14 : decode cX9_keep 14 = .ok (.iconst 3, 1) := by decide +kernel
theorem dX9_keep_15 : decode cX9_keep 15 = .ok (.if_icmp .lt 6, 3) := by decide +kernel
theorem dX9_keep_18 : decode cX9_keep 18 = .ok (.bipush (-3), 2) := by decide +kernel
theorem dX9_keep_20 : decode cX9_keep 20 = .ok (.ireturn, 1) := by decide +kernel
theorem dX9_keep_21 : decode cX9_keep 21 = .ok (.aload_n 0, 1) := by decide +kernel
theorem dX9_keep_22 : decode cX9_keep 22 = .ok (.getfield 63, 3) := by decide +kernel
theorem dX9_keep_25 : decode cX9_keep 25 = .ok (.aload_n 0, 1) := by decide +kernel
theorem dX9_keep_26 : decode cX9_keep 26 = .ok (.getfield 67, 3) := by decide +kernel
theorem dX9_keep_29 : decode cX9_keep 29 = .ok (.aaload, 1) := by decide +kernel
theorem dX9_keep_30 : decode cX9_keep 30 = .ok (.aload_n 0, 1) := by decide +kernel
theorem dX9_keep_31 : decode cX9_keep 31 = .ok (.getfield 53, 3) := by decide +kernel
theorem dX9_keep_34 : decode cX9_keep 34 = .ok (.invokevirtual 330, 3) := by decide +kernel
theorem dX9_keep_37 : decode cX9_keep 37 = .ok (.aload_n 0, 1) := by decide +kernel
theorem dX9_keep_38 : decode cX9_keep 38 = .ok (.dup, 1) := by decide +kernel
theorem dX9_keep_39 : decode cX9_keep 39 = .ok (.getfield 67, 3) := by decide +kernel
theorem dX9_keep_42 : decode cX9_keep 42 = .ok (.iconst 1, 1) := by decide +kernel
theorem dX9_keep_43 : decode cX9_keep 43 = .ok (.iadd, 1) := by decide +kernel
theorem dX9_keep_44 : decode cX9_keep 44 = .ok (.putfield 67, 3) := by decide +kernel
theorem dX9_keep_47 : decode cX9_keep 47 = .ok (.aload_n 0, 1) := by decide +kernel
theorem dX9_keep_48 : decode cX9_keep 48 = .ok (.getfield 67, 3) := by decide +kernel
theorem dX9_keep_51 : decode cX9_keep 51 = .ok (.ireturn, 1) := by decide +kernel
theorem dX9_back_0 : decode cX9_back 0 = .ok (.aload_n 0, 1) := by decide +kernel
theorem dX9_back_1 : decode cX9_back 1 = .ok (.getfield 67, 3) := by decide +kernel
theorem dX9_back_4 : decode cX9_back 4 = .ok (.iconst 1, 1) := by decide +kernel
theorem dX9_back_5 : decode cX9_back 5 = .ok (.iconst 3, 1) := by decide +kernel
theorem dX9_back_6 : decode cX9_back 6 = .ok (.invokestatic 99, 3) := by decide +kernel
theorem dX9_back_9 : decode cX9_back 9 = .ok (.ifCond .eq 6, 3) := by decide +kernel
theorem dX9_back_12 : decode cX9_back 12 = .ok (.bipush (-2), 2) := by decide +kernel
theorem dX9_back_14 : decode cX9_back 14 = .ok (.ireturn, 1) := by decide +kernel
theorem dX9_back_15 : decode cX9_back 15 = .ok (.aload_n 0, 1) := by decide +kernel
theorem dX9_back_16 : decode cX9_back 16 = .ok (.dup, 1) := by decide +kernel
theorem dX9_back_17 : decode cX9_back 17 = .ok (.getfield 67, 3) := by decide +kernel
theorem dX9_back_20 : decode cX9_back 20 = .ok (.iconst 1, 1) := by decide +kernel
theorem dX9_back_21 : decode cX9_back 21 = .ok (.isub, 1) := by decide +kernel
theorem dX9_back_22 : decode cX9_back 22 = .ok (.putfield 67, 3) := by decide +kernel
theorem dX9_back_25 : decode cX9_back 25 = .ok (.aload_n 0, 1) := by decide +kernel
theorem dX9_back_26 : decode cX9_back 26 = .ok (.getfield 53, 3) := by decide +kernel
theorem dX9_back_29 : decode cX9_back 29 = .ok (.aload_n 0, 1) := by decide +kernel
theorem dX9_back_30 : decode cX9_back 30 = .ok (.getfield 63, 3) := by decide +kernel
theorem dX9_back_33 : decode cX9_back 33 = .ok (.aload_n 0, 1) := by decide +kernel
theorem dX9_back_34 : decode cX9_back 34 = .ok (.getfield 67, 3) := by decide +kernel
theorem dX9_back_37 : decode cX9_back 37 = .ok (.aaload, 1) := by decide +kernel
theorem dX9_back_38 : decode cX9_back 38 = .ok (.invokevirtual 330, 3) := by decide +kernel
theorem dX9_back_41 : decode cX9_back 41 = .ok (.aload_n 0, 1) := by decide +kernel
theorem dX9_back_42 : decode cX9_back 42 = .ok (.getfield 67, 3) := by decide +kernel
theorem dX9_back_45 : decode cX9_back 45 = .ok (.ireturn, 1) := by decide +kernel
theorem dX9_count_0 : decode cX9_count 0 = .ok (.iload_n 1, 1) := by decide +kernel
theorem dX9_count_1 : decode cX9_count 1 = .ok (.tableswitch 153 0 8 #[51, 59, 78, 97, 116, 124, 132, 140, 148], 51) := by decide +kernel
theorem dX9_count_52 : decode cX9_count 52 = .ok (.aload_n 0, 1) := by decide +kernel
theorem dX9_count_53 : decode cX9_count 53 = .ok (.getfield 10, 3) := by decide +kernel
theorem dX9_count_56 : decode cX9_count 56 = .ok (.getfield 103, 3) := by decide +kernel
theorem dX9_count_59 : decode cX9_count 59 = .ok (.ireturn, 1) := by decide +kernel
theorem dX9_count_60 : decode cX9_count 60 = .ok (.aload_n 0, 1) := by decide +kernel
theorem dX9_count_61 : decode cX9_count 61 = .ok (.getfield 29, 3) := by decide +kernel
theorem dX9_count_64 : decode cX9_count 64 = .ok (.ifCond .eq 13, 3) := by decide +kernel
theorem dX9_count_67 : decode cX9_count 67 = .ok (.aload_n 0, 1) := by decide +kernel
theorem dX9_count_68 : decode cX9_count 68 = .ok (.getfield 19, 3) := by decide +kernel
theorem dX9_count_71 : decode cX9_count 71 = .ok (.getfield 124, 3) := by decide +kernel
theorem dX9_count_74 : decode cX9_count 74 = .ok (.goto 4, 3) := by decide +kernel
theorem dX9_count_77 : decode cX9_count 77 = .ok (.iconst 0, 1) := by decide +kernel
theorem dX9_count_78 : decode cX9_count 78 = .ok (.ireturn, 1) := by decide +kernel
theorem dX9_count_79 : decode cX9_count 79 = .ok (.aload_n 0, 1) := by decide +kernel
theorem dX9_count_80 : decode cX9_count 80 = .ok (.getfield 29, 3) := by decide +kernel
theorem dX9_count_83 : decode cX9_count 83 = .ok (.ifCond .eq 13, 3) := by decide +kernel
theorem dX9_count_86 : decode cX9_count 86 = .ok (.aload_n 0, 1) := by decide +kernel
theorem dX9_count_87 : decode cX9_count 87 = .ok (.getfield 19, 3) := by decide +kernel
theorem dX9_count_90 : decode cX9_count 90 = .ok (.getfield 114, 3) := by decide +kernel
theorem dX9_count_93 : decode cX9_count 93 = .ok (.goto 4, 3) := by decide +kernel
theorem dX9_count_96 : decode cX9_count 96 = .ok (.iconst 0, 1) := by decide +kernel
theorem dX9_count_97 : decode cX9_count 97 = .ok (.ireturn, 1) := by decide +kernel
theorem dX9_count_98 : decode cX9_count 98 = .ok (.aload_n 0, 1) := by decide +kernel
theorem dX9_count_99 : decode cX9_count 99 = .ok (.getfield 29, 3) := by decide +kernel
theorem dX9_count_102 : decode cX9_count 102 = .ok (.ifCond .eq 13, 3) := by decide +kernel
theorem dX9_count_105 : decode cX9_count 105 = .ok (.aload_n 0, 1) := by decide +kernel
theorem dX9_count_106 : decode cX9_count 106 = .ok (.getfield 19, 3) := by decide +kernel
theorem dX9_count_109 : decode cX9_count 109 = .ok (.getfield 333, 3) := by decide +kernel
theorem dX9_count_112 : decode cX9_count 112 = .ok (.goto 4, 3) := by decide +kernel
theorem dX9_count_115 : decode cX9_count 115 = .ok (.iconst 0, 1) := by decide +kernel
theorem dX9_count_116 : decode cX9_count 116 = .ok (.ireturn, 1) := by decide +kernel
theorem dX9_count_117 : decode cX9_count 117 = .ok (.aload_n 0, 1) := by decide +kernel
theorem dX9_count_118 : decode cX9_count 118 = .ok (.getfield 53, 3) := by decide +kernel
theorem dX9_count_121 : decode cX9_count 121 = .ok (.getfield 144, 3) := by decide +kernel
theorem dX9_count_124 : decode cX9_count 124 = .ok (.ireturn, 1) := by decide +kernel
theorem dX9_count_125 : decode cX9_count 125 = .ok (.aload_n 0, 1) := by decide +kernel
theorem dX9_count_126 : decode cX9_count 126 = .ok (.getfield 81, 3) := by decide +kernel
theorem dX9_count_129 : decode cX9_count 129 = .ok (.invokevirtual 336, 3) := by decide +kernel
theorem dX9_count_132 : decode cX9_count 132 = .ok (.ireturn, 1) := by decide +kernel
theorem dX9_count_133 : decode cX9_count 133 = .ok (.aload_n 0, 1) := by decide +kernel
theorem dX9_count_134 : decode cX9_count 134 = .ok (.getfield 74, 3) := by decide +kernel
theorem dX9_count_137 : decode cX9_count 137 = .ok (.invokevirtual 339, 3) := by decide +kernel
theorem dX9_count_140 : decode cX9_count 140 = .ok (.ireturn, 1) := by decide +kernel
theorem dX9_count_141 : decode cX9_count 141 = .ok (.aload_n 0, 1) := by decide +kernel
theorem dX9_count_142 : decode cX9_count 142 = .ok (.getfield 74, 3) := by decide +kernel
theorem dX9_count_145 : decode cX9_count 145 = .ok (.invokevirtual 340, 3) := by decide +kernel
theorem dX9_count_148 : decode cX9_count 148 = .ok (.ireturn, 1) := by decide +kernel
theorem dX9_count_149 : decode cX9_count 149 = .ok (.aload_n 0, 1) := by decide +kernel
theorem dX9_count_150 : decode cX9_count 150 = .ok (.getfield 67, 3) := by decide +kernel
theorem dX9_count_153 : decode cX9_count 153 = .ok (.ireturn, 1) := by decide +kernel
theorem dX9_count_154 : decode cX9_count 154 = .ok (.iconst (-1), 1) := by decide +kernel
theorem dX9_count_155 : decode cX9_count 155 = .ok (.ireturn, 1) := by decide +kernel
def uX9_booked : List Cond := .code yX9_booked cX9_booked 2 (some .int) :: ([.methodLink RX9 99 yX9_isOutside, .static yX9_isOutside, .initialized RX9, .fieldLink RX9 88 "RiverModel" "worlds" "LRiverModel$Worlds;", .fieldLink RX9 283 "RiverModel$Worlds" "warnings" "[I", .code yX9_isOutside cX9_isOutside 3 (some .boolean)] ++ wsX90 ++ wsX80)
set_option maxRecDepth 20000 in
theorem gu_X9_booked_X9_isOutside_99 : GoodIn uX9_booked (va_wsS RX9 99 yX9_isOutside uX9_isOutside) := goodIn_r _ [1, 2, 3, 6] rfl (by decide +kernel)
set_option maxHeartbeats 4000000 in
set_option maxRecDepth 100000 in
theorem s_X9_booked (l : Launch) (D : va_G) (t : Nat → Nat) (cI cL cC : ClassId) (gC : Int32) (gE : Int32) (G : Nat) (gW : Nat → Int32) (gA : Nat → Int32) (a0 : Nat) (a1 : Int32) (k_a0 : t a0 = 1) : tM l yX9_booked uX9_booked 1 22 D (gF cI cL cC gC gE G gW gA) (gF cI cL cC gC gE G gW gA) t cI cL cC [.ref a0, .int a1] wr0 (pI (fun r => True)) := by
  refine tM.ofW (cc := cX9_booked) (maxL := 2) (ret := (some .int)) (by decide) rfl (Nat.le_of_ble_eq_true rfl) ?_
  intro p e s m below meth c hx hb hr hml hown hts hlk H locs hG hK hE hS ls hl
  have hl : lv_has ls 2 [(0, .ref a0), (1, .int a1)] := hl
  have in9 : ∀ w ∈ wsX90, w ∈ uX9_booked := fun w h => List.mem_cons_of_mem _ (List.mem_append_left _ (List.mem_append_right _ h))
  have in8 : ∀ w ∈ wsX80, w ∈ uX9_booked := fun w h => List.mem_cons_of_mem _ (List.mem_append_right _ h)
  refine lv_iload_n hx hb dX9_booked_0 rfl (lv_at hl 1 rfl) ?_
  refine lv_iconst (v := 0) hx hb dX9_booked_1 (by decide) ?_
  refine lv_iconst (v := 3) hx hb dX9_booked_2 (by decide) ?_
  refine ty_calli ((W.runS (As := [.int a1, .int 0, .int 3]) (rest := []) ⟨hx, hb, hml, hown, hts⟩ (s_X9_isOutside l D t cI cL cC gC gE G gW gA a1 0 3 0 3 (by decide) (by decide) ) (va_cwS 3 hts gu_X9_booked_X9_isOutside_99 rfl rfl rfl (by decide +kernel) ⟨Nat.le_of_ble_eq_true rfl, Nat.le_of_ble_eq_true rfl⟩) (tP_S hG hE) rfl rfl hl.1 rfl (lv_room (Nat.le_of_ble_eq_true rfl)) dX9_booked_3 ⟨Nat.le_of_ble_eq_true rfl, Nat.le_of_ble_eq_true rfl⟩)) hS (fun _ h => h) (fun r_1 H locs hp_2 hG hS o_3 => ?_)
  rcases hp_2 with ⟨rfl, hc_214⟩ | ⟨rfl, hc_215, hc_216⟩
  · skip
    refine lv_if_eq (tgt := 13) hx hb dX9_booked_6 (by decide) (fun q => absurd q (by decide)) (fun _ => ?_)
    refine lv_iconst (v := (-1)) hx hb dX9_booked_9 (by decide) ?_
    refine lv_goto (tgt := 22) hx hb dX9_booked_10 (by decide) ?_
    refine lv_pc (pc2 := 22) rfl ?_
    exact ty_iret hx hb hr hlk hG hS True.intro dX9_booked_22
  · skip
    refine lv_if_eq (tgt := 13) hx hb dX9_booked_6 (by decide) (fun _ => ?_) (fun q => absurd (by decide) q)
    refine lv_aload_n hx hb dX9_booked_13 rfl (lv_at hl 0 rfl) ?_
    obtain ⟨r_4, r_6, r_8, r_10, v_12, v_13, r_14, r_16, r_18, r_20, r_22, r_24, r_26, v_28, r_30, r_32, r_34, r_36, at_38, h_5, h_7, h_9, h_11, h_15, h_17, h_19, h_21, h_23, h_25, h_27, h_29, h_31, h_33, h_35, h_37⟩ := gF_o1 hG k_a0
    refine va_get (D := D) (ci := 8) (v := .ref r_34) (C := RX9) (T := TX9) (N := 18) hx hb hts in9 hown hK (va_one at_38) 0 rfl rfl 16 (by decide) (hts (.fieldLink RX9 88 "RiverModel" "worlds" "LRiverModel$Worlds;") (List.mem_of_getElem? (i := 4) rfl)) (fun _ h9 => h9) rfl dX9_booked_14 ?_
    obtain ⟨r_39, r_41, r_43, at_45, h_40, h_42, h_44⟩ := gF_o8 hG h_35
    refine va_get (D := D) (ci := 7) (v := .ref r_41) (C := RX8) (T := TX8) (N := 3) hx hb hts in8 hown hK (va_one at_45) 0 rfl rfl 1 (by decide) (hts (.fieldLink RX9 283 "RiverModel$Worlds" "warnings" "[I") (List.mem_of_getElem? (i := 5) rfl)) (fun _ h9 => h9) rfl dX9_booked_17 ?_
    refine lv_iload_n hx hb dX9_booked_20 rfl (lv_at hl 1 rfl) ?_
    obtain ⟨f_46, at_47⟩ := gF_o30 hG h_42
    have b_48 : vp_in a1 4 := (q_in (by omega) (by omega))
    refine va_iald hx hb hK (va_one at_47) 0 0 rfl rfl b_48 dX9_booked_21 ?_
    refine lv_topi (fun x_49 e_50 => ?_)
    exact ty_iret hx hb hr hlk hG hS True.intro dX9_booked_22

def uX9_peak : List Cond := .code yX9_peak cX9_peak 4 (some .long) :: ([.methodLink RX9 205 yX9_isNoGauge, .static yX9_isNoGauge, .initialized RX9, .constantLong RX9 158 (-1), .methodLink RX9 99 yX9_isOutside, .static yX9_isOutside, .methodLink RX9 212 yX9_lacksGauge, .instanceMethod yX9_lacksGauge, .selects RX9 yX9_lacksGauge yX9_lacksGauge, .methodLink RX9 265 yX9_isBeyond, .instanceMethod yX9_isBeyond, .selects RX9 yX9_isBeyond yX9_isBeyond, .methodLink RX9 275 yX9_peakAhead, .instanceMethod yX9_peakAhead, .selects RX9 yX9_peakAhead yX9_peakAhead, .constantLong RX9 163 (-2), .code yX9_isNoGauge cX9_isNoGauge 1 (some .boolean), .code yX9_isOutside cX9_isOutside 3 (some .boolean), .code yX9_lacksGauge cX9_lacksGauge 2 (some .boolean), .fieldLink RX9 29 "RiverModel" "isBuilt" "Z", .fieldLink RX9 74 "RiverModel" "gauges" "LRiverModel$Gauges;", .methodLink RX9 346 yX1_isSet, .instanceMethod yX1_isSet, .selects RX1 yX1_isSet yX1_isSet, .initialized RX1, .code yX1_isSet cX1_isSet 2 (some .boolean), .fieldLink RX1 9 "RiverModel$Gauges" "whats" "[I", .code yX9_isBeyond cX9_isBeyond 2 (some .boolean), .fieldLink RX9 53 "RiverModel" "now" "LRiverModel$Course;", .fieldLink RX9 144 "RiverModel$Course" "hours" "I", .code yX9_peakAhead cX9_peakAhead 9 (some .long), .fieldLink RX9 57 "RiverModel" "trial" "LRiverModel$Course;", .methodLink RX9 330 yX0_copyFrom, .instanceMethod yX0_copyFrom, .selects RX0 yX0_copyFrom yX0_copyFrom, .initialized RX0, .fieldLink RX9 88 "RiverModel" "worlds" "LRiverModel$Worlds;", .methodLink RX9 371 yX8_rainAhead, .instanceMethod yX8_rainAhead, .selects RX8 yX8_rainAhead yX8_rainAhead, .initialized RX8, .fieldLink RX9 19 "RiverModel" "model" "LRiverModel$Model;", .fieldLink RX9 39 "RiverModel" "skyA" "LRiverModel$Sky;", .methodLink RX9 360 yX6_tempIn, .instanceMethod yX6_tempIn, .selects RX6 yX6_tempIn yX6_tempIn, .initialized RX6, .methodLink RX9 363 yX0_goHour, .instanceMethod yX0_goHour, .selects RX0 yX0_goHour yX0_goHour, .methodLink RX9 215 yX1_reading, .instanceMethod yX1_reading, .selects RX1 yX1_reading yX1_reading, .methodLink RX9 374 Lib.MathLoose.max_long.x, .static Lib.MathLoose.max_long.x, .initialized "java/lang/Math", .code Lib.MathLoose.max_long.x Lib.MathLoose.max_long.code 4 (some .long), .methodLink RX9 357 yX6_rainIn, .instanceMethod yX6_rainIn, .selects RX6 yX6_rainIn yX6_rainIn, .code yX0_copyFrom cX0_copyFrom 2 none, .fieldLink RX0 9 "RiverModel$Course" "held" "[J", .methodLink RX0 54 arraycopyName, .native arraycopyName, .static arraycopyName, .initialized "java/lang/System", .fieldLink RX0 15 "RiverModel$Course" "moved" "[J", .fieldLink RX0 18 "RiverModel$Course" "openings" "[I", .fieldLink RX0 22 "RiverModel$Course" "due" "[J", .fieldLink RX0 25 "RiverModel$Course" "rained" "J", .fieldLink RX0 29 "RiverModel$Course" "air" "J", .fieldLink RX0 32 "RiverModel$Course" "sea" "J", .fieldLink RX0 35 "RiverModel$Course" "hours" "I", .code yX8_rainAhead cX8_rainAhead 3 (some .int), .static yX9_isNoWorld, .fieldLink RX8 18 "RiverModel$Worlds" "rains" "[I", .code yX9_isNoWorld cX9_isNoWorld 1 (some .boolean), .code yX6_tempIn cX6_tempIn 2 (some .int), .fieldLink RX6 15 "RiverModel$Sky" "temps" "[I", .code yX0_goHour cX0_goHour 7 none, .methodLink RX0 72 yX0_bringDue, .instanceMethod yX0_bringDue, .selects RX0 yX0_bringDue yX0_bringDue, .fieldLink RX0 75 "RiverModel$Model" "many" "I", .methodLink RX0 78 yX0_amountOf, .instanceMethod yX0_amountOf, .selects RX0 yX0_amountOf yX0_amountOf, .methodLink RX0 82 yX0_move, .instanceMethod yX0_move, .selects RX0 yX0_move yX0_move, .code yX0_bringDue cX0_bringDue 3 none, .code yX0_amountOf cX0_amountOf 11 (some .long), .methodLink RX0 86 yX4_cell, .instanceMethod yX4_cell, .selects RX4 yX4_cell yX4_cell, .initialized RX4, .static yX9_isNoStore, .methodLink RX0 110 yX4_gateOf, .instanceMethod yX4_gateOf, .selects RX4 yX4_gateOf yX4_gateOf, .methodLink RX0 113 yX0_openingOf, .instanceMethod yX0_openingOf, .selects RX0 yX0_openingOf yX0_openingOf, .methodLink RX0 107 Lib.MathLoose.min_long.x, .static Lib.MathLoose.min_long.x, .code Lib.MathLoose.min_long.x Lib.MathLoose.min_long.code 4 (some .long), .methodLink RX0 94 yX0_leakOf, .static yX0_leakOf, .constantLong RX0 117 (100), .methodLink RX0 98 yX4_capacityOf, .instanceMethod yX4_capacityOf, .selects RX4 yX4_capacityOf yX4_capacityOf, .methodLink RX0 101 Lib.MathLoose.max_long.x, .constantLong RX0 119 (10), .code yX4_cell cX4_cell 3 (some .int), .fieldLink RX4 9 "RiverModel$Model" "cells" "[I", .code yX9_isNoStore cX9_isNoStore 1 (some .boolean), .code yX4_gateOf cX4_gateOf 3 (some .int), .fieldLink RX4 28 "RiverModel$Model" "gates" "I", .fieldLink RX4 18 "RiverModel$Model" "gateItems" "[I", .code yX0_openingOf cX0_openingOf 2 (some .long), .static yX9_isNoGate, .code yX9_isNoGate cX9_isNoGate 1 (some .boolean), .code yX0_leakOf cX0_leakOf 8 (some .long), .code yX4_capacityOf cX4_capacityOf 2 (some .int), .methodLink RX4 66 yX4_hasStore, .instanceMethod yX4_hasStore, .selects RX4 yX4_hasStore yX4_hasStore, .fieldLink RX4 15 "RiverModel$Model" "storeItems" "[I", .methodLink RX4 73 yX4_cell, .code yX4_hasStore cX4_hasStore 2 (some .boolean), .code yX0_move cX0_move 8 none, .methodLink RX0 124 yX0_send, .instanceMethod yX0_send, .selects RX0 yX0_send yX0_send, .code yX0_send cX0_send 5 none, .code yX1_reading cX1_reading 4 (some .long), .methodLink RX1 35 yX1_isSet, .fieldLink RX1 15 "RiverModel$Gauges" "places" "[I", .fieldLink RX1 50 "RiverModel$Course" "held" "[J", .static yX9_isNoItem, .fieldLink RX1 41 "RiverModel$Course" "moved" "[J", .code yX9_isNoItem cX9_isNoItem 1 (some .boolean), .code yX6_rainIn cX6_rainIn 2 (some .int), .fieldLink RX6 9 "RiverModel$Sky" "rains" "[I"] ++ wsX90 ++ wsX10 ++ wsX00 ++ wsX80 ++ wsX60 ++ wsX40)
set_option maxRecDepth 20000 in
theorem gu_X9_peak_X9_isNoGauge_205 : GoodIn uX9_peak (va_wsS RX9 205 yX9_isNoGauge uX9_isNoGauge) := goodIn_r _ [1, 2, 3, 17] rfl (by decide +kernel)
set_option maxRecDepth 20000 in
theorem gu_X9_peak_X9_isOutside_99 : GoodIn uX9_peak (va_wsS RX9 99 yX9_isOutside uX9_isOutside) := goodIn_r _ [5, 6, 3, 18] rfl (by decide +kernel)
set_option maxRecDepth 20000 in
theorem gu_X9_peak_X9_lacksGauge_212 : GoodIn uX9_peak (wsV RX9 212 RX9 yX9_lacksGauge uX9_lacksGauge) := goodIn_r _ [7, 8, 9, 3, 19, 20, 21, 22, 23, 24, 25, 26, 27, 146, 147, 148, 149, 150, 151, 152, 153, 154, 155, 156, 157, 158, 159, 160, 161, 162, 163, 164, 165, 166, 167] rfl (by decide +kernel)
set_option maxRecDepth 20000 in
theorem gu_X9_peak_X9_isBeyond_265 : GoodIn uX9_peak (wsV RX9 265 RX9 yX9_isBeyond uX9_isBeyond) := goodIn_r _ [10, 11, 12, 3, 28, 29, 30, 146, 147, 148, 149, 150, 151, 152, 153, 154, 155, 156, 157, 158, 159, 160, 161, 162, 163, 168, 169, 170, 171, 172, 173, 174, 175] rfl (by decide +kernel)
set_option maxRecDepth 20000 in
theorem gu_X9_peak_X9_peakAhead_275 : GoodIn uX9_peak (wsV RX9 275 RX9 yX9_peakAhead uX9_peakAhead) := goodIn_r _ [13, 14, 15, 3, 31, 32, 29, 33, 34, 35, 36, 30, 37, 38, 39, 40, 41, 42, 43, 44, 45, 46, 47, 48, 49, 50, 21, 51, 52, 53, 25, 54, 55, 56, 57, 58, 59, 60, 61, 62, 63, 64, 65, 66, 67, 68, 69, 70, 71, 72, 73, 74, 3, 75, 6, 76, 77, 18, 78, 79, 80, 81, 82, 83, 84, 85, 86, 87, 88, 89, 90, 91, 92, 93, 94, 95, 96, 97, 98, 99, 100, 101, 102, 103, 104, 105, 106, 107, 108, 109, 110, 111, 112, 113, 114, 115, 116, 117, 118, 119, 120, 121, 122, 123, 124, 125, 126, 127, 128, 129, 130, 131, 132, 133, 134, 135, 136, 137, 138, 23, 24, 139, 27, 140, 141, 142, 26, 143, 144, 145, 146, 147, 148, 149, 150, 151, 152, 153, 154, 155, 156, 157, 158, 159, 160, 161, 162, 163, 168, 169, 170, 171, 172, 173, 174, 175, 176, 177, 178, 179, 180, 181, 182, 183, 184, 185, 186, 164, 165, 166, 167] rfl (by decide +kernel)
set_option maxHeartbeats 4000000 in
set_option maxRecDepth 100000 in
theorem s_X9_peak (l : Launch) (D : va_G) (t : Nat → Nat) (cI cL cC : ClassId) (gC : Int32) (gE : Int32) (G : Nat) (gW : Nat → Int32) (gA : Nat → Int32) (a0 : Nat) (a1 : Int32) (a2 : Int32) (a3 : Int32) (hGb : G ≤ 100000000) (k_a0 : t a0 = 1) : tM l yX9_peak uX9_peak 5 127 D (gF cI cL cC gC gE G gW gA) (gF cI cL cC gC gE (G + 24) gW gA) t cI cL cC [.ref a0, .int a1, .int a2, .int a3] wrC (pL (fun r => True)) := by
  refine tM.ofW (cc := cX9_peak) (maxL := 4) (ret := (some .long)) (by decide) rfl (Nat.le_of_ble_eq_true rfl) ?_
  intro p e s m below meth c hx hb hr hml hown hts hlk H locs hG hK hE hS ls hl
  have hl : lv_has ls 4 [(0, .ref a0), (1, .int a1), (2, .int a2), (3, .int a3)] := hl
  skip
  refine lv_iload_n hx hb dX9_peak_0 rfl (lv_at hl 1 rfl) ?_
  refine ty_calli ((W.runS (As := [.int a1]) (rest := []) ⟨hx, hb, hml, hown, hts⟩ (s_X9_isNoGauge l D t cI cL cC gC gE G gW gA a1 ) (va_cwS 1 hts gu_X9_peak_X9_isNoGauge_205 rfl rfl rfl (by decide +kernel) ⟨Nat.le_of_ble_eq_true rfl, Nat.le_of_ble_eq_true rfl⟩) (tP_S hG hE) rfl rfl hl.1 rfl (lv_room (Nat.le_of_ble_eq_true rfl)) dX9_peak_1 ⟨Nat.le_of_ble_eq_true rfl, Nat.le_of_ble_eq_true rfl⟩)) hS (fun k h => by simp [wr0] at h) (fun r_1 H locs hp_2 hG hS o_3 => ?_)
  rcases hp_2 with ⟨rfl, hc_217⟩ | ⟨rfl, hc_218, hc_219⟩
  · skip
    refine lv_if_ne (tgt := 26) hx hb dX9_peak_4 (by decide) (fun _ => ?_) (fun q => absurd q (by decide))
    refine lv_ldc2 hx hb hown (hts (.constantLong RX9 158 (-1)) (List.mem_of_getElem? (i := 4) rfl)) dX9_peak_26 ?_
    exact ty_lret hx hb hr hlk (hG.weak (fun _ _ => gF_mono (by omega))) hS True.intro dX9_peak_29
  · skip
    refine lv_if_ne (tgt := 26) hx hb dX9_peak_4 (by decide) (fun q => absurd rfl q) (fun _ => ?_)
    refine lv_iload_n hx hb dX9_peak_7 rfl (lv_at hl 2 rfl) ?_
    refine lv_pc (pc2 := 8) rfl ?_
    refine lv_iconst (v := 1) hx hb dX9_peak_8 (by decide) ?_
    refine lv_bipush (v := 24) hx hb dX9_peak_9 (by decide) ?_
    refine ty_calli ((W.runS (As := [.int a2, .int 1, .int 24]) (rest := []) ⟨hx, hb, hml, hown, hts⟩ (s_X9_isOutside l D t cI cL cC gC gE G gW gA a2 1 24 1 24 (by decide) (by decide) ) (va_cwS 3 hts gu_X9_peak_X9_isOutside_99 rfl rfl rfl (by decide +kernel) ⟨Nat.le_of_ble_eq_true rfl, Nat.le_of_ble_eq_true rfl⟩) (tP_S hG hE) rfl rfl hl.1 rfl (lv_room (Nat.le_of_ble_eq_true rfl)) dX9_peak_11 ⟨Nat.le_of_ble_eq_true rfl, Nat.le_of_ble_eq_true rfl⟩)) hS (fun k h => by simp [wr0] at h) (fun r_4 H locs hp_5 hG hS o_6 => ?_)
    rcases hp_5 with ⟨rfl, hc_220⟩ | ⟨rfl, hc_221, hc_222⟩
    · skip
      refine lv_if_ne (tgt := 26) hx hb dX9_peak_14 (by decide) (fun _ => ?_) (fun q => absurd q (by decide))
      refine lv_ldc2 hx hb hown (hts (.constantLong RX9 158 (-1)) (List.mem_of_getElem? (i := 4) rfl)) dX9_peak_26 ?_
      exact ty_lret hx hb hr hlk (hG.weak (fun _ _ => gF_mono (by omega))) hS True.intro dX9_peak_29
    · skip
      refine lv_if_ne (tgt := 26) hx hb dX9_peak_14 (by decide) (fun q => absurd rfl q) (fun _ => ?_)
      refine lv_iload_n hx hb dX9_peak_17 rfl (lv_at hl 3 rfl) ?_
      refine lv_pc (pc2 := 18) rfl ?_
      refine lv_iconst (v := (-1)) hx hb dX9_peak_18 (by decide) ?_
      refine lv_iconst (v := 3) hx hb dX9_peak_19 (by decide) ?_
      refine ty_calli ((W.runS (As := [.int a3, .int (-1), .int 3]) (rest := []) ⟨hx, hb, hml, hown, hts⟩ (s_X9_isOutside l D t cI cL cC gC gE G gW gA a3 (-1) 3 (-1) 3 (by decide) (by decide) ) (va_cwS 3 hts gu_X9_peak_X9_isOutside_99 rfl rfl rfl (by decide +kernel) ⟨Nat.le_of_ble_eq_true rfl, Nat.le_of_ble_eq_true rfl⟩) (tP_S hG hE) rfl rfl hl.1 rfl (lv_room (Nat.le_of_ble_eq_true rfl)) dX9_peak_20 ⟨Nat.le_of_ble_eq_true rfl, Nat.le_of_ble_eq_true rfl⟩)) hS (fun k h => by simp [wr0] at h) (fun r_7 H locs hp_8 hG hS o_9 => ?_)
      rcases hp_8 with ⟨rfl, hc_223⟩ | ⟨rfl, hc_224, hc_225⟩
      · skip
        refine lv_if_eq (tgt := 30) hx hb dX9_peak_23 (by decide) (fun q => absurd q (by decide)) (fun _ => ?_)
        refine lv_ldc2 hx hb hown (hts (.constantLong RX9 158 (-1)) (List.mem_of_getElem? (i := 4) rfl)) dX9_peak_26 ?_
        exact ty_lret hx hb hr hlk (hG.weak (fun _ _ => gF_mono (by omega))) hS True.intro dX9_peak_29
      · skip
        refine lv_if_eq (tgt := 30) hx hb dX9_peak_23 (by decide) (fun _ => ?_) (fun q => absurd (by decide) q)
        refine lv_aload_n hx hb dX9_peak_30 rfl (lv_at hl 0 rfl) ?_
        refine lv_pc (pc2 := 31) rfl ?_
        refine lv_iload_n hx hb dX9_peak_31 rfl (lv_at hl 1 rfl) ?_
        obtain ⟨r_10, r_12, r_14, r_16, v_18, v_19, r_20, r_22, r_24, r_26, r_28, r_30, r_32, v_34, r_36, r_38, r_40, r_42, at_44, h_11, h_13, h_15, h_17, h_21, h_23, h_25, h_27, h_29, h_31, h_33, h_35, h_37, h_39, h_41, h_43⟩ := gF_o1 hG k_a0
        refine ty_calli ((W.runV (As := [.int a1]) (rest := []) ⟨hx, hb, hml, hown, hts⟩ (s_X9_lacksGauge l D t cI cL cC gC gE G gW gA a0 a1 k_a0) (cwV 1 hts gu_X9_peak_X9_lacksGauge_212 rfl rfl rfl (by decide +kernel) ⟨Nat.le_of_ble_eq_true rfl, Nat.le_of_ble_eq_true rfl⟩) (tP_V hG hE at_44 rfl) rfl rfl hl.1 rfl (lv_room (Nat.le_of_ble_eq_true rfl)) dX9_peak_32 ⟨Nat.le_of_ble_eq_true rfl, Nat.le_of_ble_eq_true rfl⟩)) hS (fun k h => by simp [wr0] at h) (fun r_45 H locs hp_46 hG hS o_47 => ?_)
        have at_44 := va_at.keptC at_44 o_47 k_a0 rfl
        rcases hp_46 with rfl | rfl
        · skip
          refine lv_if_ne (tgt := 46) hx hb dX9_peak_35 (by decide) (fun q => absurd rfl q) (fun _ => ?_)
          refine lv_aload_n hx hb dX9_peak_38 rfl (lv_at hl 0 rfl) ?_
          refine lv_iload_n hx hb dX9_peak_39 rfl (lv_at hl 2 rfl) ?_
          refine ty_calli ((W.runV (As := [.int a2]) (rest := []) ⟨hx, hb, hml, hown, hts⟩ (s_X9_isBeyond l D t cI cL cC gC gE G gW gA a0 a2 k_a0) (cwV 1 hts gu_X9_peak_X9_isBeyond_265 rfl rfl rfl (by decide +kernel) ⟨Nat.le_of_ble_eq_true rfl, Nat.le_of_ble_eq_true rfl⟩) (tP_V hG hE at_44 rfl) rfl rfl hl.1 rfl (lv_room (Nat.le_of_ble_eq_true rfl)) dX9_peak_40 ⟨Nat.le_of_ble_eq_true rfl, Nat.le_of_ble_eq_true rfl⟩)) hS (fun k h => by simp [wr0] at h) (fun r_48 H locs hp_49 hG hS o_50 => ?_)
          have at_44 := va_at.keptC at_44 o_50 k_a0 rfl
          rcases hp_49 with rfl | rfl
          · skip
            refine lv_if_eq (tgt := 52) hx hb dX9_peak_43 (by decide) (fun _ => ?_) (fun q => absurd (by decide) q)
            refine lv_aload_n hx hb dX9_peak_52 rfl (lv_at hl 0 rfl) ?_
            refine lv_pc (pc2 := 53) rfl ?_
            refine lv_iload_n hx hb dX9_peak_53 rfl (lv_at hl 1 rfl) ?_
            refine lv_iload_n hx hb dX9_peak_54 rfl (lv_at hl 2 rfl) ?_
            refine lv_iload_n hx hb dX9_peak_55 rfl (lv_at hl 3 rfl) ?_
            refine ty_calll ((W.runV (As := [.int a1, .int a2, .int a3]) (rest := []) ⟨hx, hb, hml, hown, hts⟩ (s_X9_peakAhead l D t cI cL cC gC gE G gW gA a0 a1 a2 a3 (by omega) (by omega) k_a0) (cwV 3 hts gu_X9_peak_X9_peakAhead_275 rfl rfl rfl (by decide +kernel) ⟨Nat.le_of_ble_eq_true rfl, Nat.le_of_ble_eq_true rfl⟩) (tP_V hG hE at_44 rfl) rfl rfl hl.1 rfl (lv_room (Nat.le_of_ble_eq_true rfl)) dX9_peak_56 ⟨Nat.le_of_ble_eq_true rfl, Nat.le_of_ble_eq_true rfl⟩)) hS (fun _ h => h) (fun z_51 H locs hp_52 hG hS o_53 => ?_)
            have at_44 := va_at.keptC at_44 o_53 k_a0 rfl
            exact ty_lret hx hb hr hlk hG hS True.intro dX9_peak_59
          · skip
            refine lv_if_eq (tgt := 52) hx hb dX9_peak_43 (by decide) (fun q => absurd q (by decide)) (fun _ => ?_)
            refine lv_ldc2 hx hb hown (hts (.constantLong RX9 163 (-2)) (List.mem_of_getElem? (i := 16) rfl)) dX9_peak_46 ?_
            refine lv_goto (tgt := 59) hx hb dX9_peak_49 (by decide) ?_
            refine lv_pc (pc2 := 59) rfl ?_
            exact ty_lret hx hb hr hlk (hG.weak (fun _ _ => gF_mono (by omega))) hS True.intro dX9_peak_59
        · skip
          refine lv_if_ne (tgt := 46) hx hb dX9_peak_35 (by decide) (fun _ => ?_) (fun q => absurd q (by decide))
          refine lv_ldc2 hx hb hown (hts (.constantLong RX9 163 (-2)) (List.mem_of_getElem? (i := 16) rfl)) dX9_peak_46 ?_
          refine lv_goto (tgt := 59) hx hb dX9_peak_49 (by decide) ?_
          exact ty_lret hx hb hr hlk (hG.weak (fun _ _ => gF_mono (by omega))) hS True.intro dX9_peak_59

def uX9_best : List Cond := .code yX9_best cX9_best 8 (some .long) :: ([.methodLink RX9 176 yX9_isNoGate, .static yX9_isNoGate, .initialized RX9, .constantLong RX9 158 (-1), .methodLink RX9 99 yX9_isOutside, .static yX9_isOutside, .methodLink RX9 205 yX9_isNoGauge, .static yX9_isNoGauge, .methodLink RX9 155 yX9_isNoStore, .static yX9_isNoStore, .methodLink RX9 179 yX9_lacksGate, .instanceMethod yX9_lacksGate, .selects RX9 yX9_lacksGate yX9_lacksGate, .methodLink RX9 212 yX9_lacksGauge, .instanceMethod yX9_lacksGauge, .selects RX9 yX9_lacksGauge yX9_lacksGauge, .methodLink RX9 160 yX9_lacksStore, .instanceMethod yX9_lacksStore, .selects RX9 yX9_lacksStore yX9_lacksStore, .methodLink RX9 265 yX9_isBeyond, .instanceMethod yX9_isBeyond, .selects RX9 yX9_isBeyond yX9_isBeyond, .fieldLink RX9 95 "RiverModel" "search" "LRiverModel$Search;", .methodLink RX9 286 yX5_prepare, .instanceMethod yX5_prepare, .selects RX5 yX5_prepare yX5_prepare, .initialized RX5, .fieldLink RX9 19 "RiverModel" "model" "LRiverModel$Model;", .fieldLink RX9 39 "RiverModel" "skyA" "LRiverModel$Sky;", .fieldLink RX9 74 "RiverModel" "gauges" "LRiverModel$Gauges;", .fieldLink RX9 53 "RiverModel" "now" "LRiverModel$Course;", .instanceMethod yX5_tryBlock, .selects RX5 yX5_tryBlock yX5_tryBlock, .fieldLink RX9 294 "RiverModel$Search" "isFound" "Z", .fieldLink RX9 302 "RiverModel$Search" "found" "[I", .fieldLink RX9 299 "RiverModel$Search" "leastPeak" "J", .constantLong RX9 297 (-4), .constantLong RX9 163 (-2), .code yX9_isNoGate cX9_isNoGate 1 (some .boolean), .code yX9_isOutside cX9_isOutside 3 (some .boolean), .code yX9_isNoGauge cX9_isNoGauge 1 (some .boolean), .code yX9_isNoStore cX9_isNoStore 1 (some .boolean), .code yX9_lacksGate cX9_lacksGate 2 (some .boolean), .fieldLink RX9 29 "RiverModel" "isBuilt" "Z", .fieldLink RX9 333 "RiverModel$Model" "gates" "I", .code yX9_lacksGauge cX9_lacksGauge 2 (some .boolean), .methodLink RX9 346 yX1_isSet, .instanceMethod yX1_isSet, .selects RX1 yX1_isSet yX1_isSet, .initialized RX1, .code yX1_isSet cX1_isSet 2 (some .boolean), .fieldLink RX1 9 "RiverModel$Gauges" "whats" "[I", .code yX9_lacksStore cX9_lacksStore 2 (some .boolean), .methodLink RX9 343 yX4_hasStore, .instanceMethod yX4_hasStore, .selects RX4 yX4_hasStore yX4_hasStore, .initialized RX4, .code yX4_hasStore cX4_hasStore 2 (some .boolean), .fieldLink RX4 15 "RiverModel$Model" "storeItems" "[I", .code yX9_isBeyond cX9_isBeyond 2 (some .boolean), .fieldLink RX9 144 "RiverModel$Course" "hours" "I", .code yX5_prepare cX5_prepare 7 none, .fieldLink RX5 32 "RiverModel$Search" "gate" "I", .fieldLink RX5 36 "RiverModel$Search" "blockHours" "I", .fieldLink RX5 39 "RiverModel$Search" "gauge" "I", .fieldLink RX5 42 "RiverModel$Search" "store" "I", .fieldLink RX5 45 "RiverModel$Search" "limit" "J", .fieldLink RX5 24 "RiverModel$Search" "isFound" "Z", .code yX5_tryBlock cX5_tryBlock 12 none, .fieldLink RX5 11 "RiverModel$Search" "blockEnds" "[LRiverModel$Course;", .fieldLink RX5 17 "RiverModel$Search" "tried" "[I", .methodLink RX5 53 yX0_copyFrom, .instanceMethod yX0_copyFrom, .selects RX0 yX0_copyFrom yX0_copyFrom, .initialized RX0, .methodLink RX5 57 yX5_peakOfBlock, .instanceMethod yX5_peakOfBlock, .selects RX5 yX5_peakOfBlock yX5_peakOfBlock, .constantLong RX5 61 (-1), .methodLink RX5 67 yX5_tryBlock, .fieldLink RX5 28 "RiverModel$Search" "leastPeak" "J", .code yX0_copyFrom cX0_copyFrom 2 none, .fieldLink RX0 9 "RiverModel$Course" "held" "[J", .methodLink RX0 54 arraycopyName, .native arraycopyName, .static arraycopyName, .initialized "java/lang/System", .fieldLink RX0 15 "RiverModel$Course" "moved" "[J", .fieldLink RX0 18 "RiverModel$Course" "openings" "[I", .fieldLink RX0 22 "RiverModel$Course" "due" "[J", .fieldLink RX0 25 "RiverModel$Course" "rained" "J", .fieldLink RX0 29 "RiverModel$Course" "air" "J", .fieldLink RX0 32 "RiverModel$Course" "sea" "J", .fieldLink RX0 35 "RiverModel$Course" "hours" "I", .code yX5_peakOfBlock cX5_peakOfBlock 11 (some .long), .fieldLink RX5 78 "RiverModel$Course" "openings" "[I", .fieldLink RX5 81 "RiverModel$Course" "hours" "I", .methodLink RX5 84 yX6_rainIn, .instanceMethod yX6_rainIn, .selects RX6 yX6_rainIn yX6_rainIn, .initialized RX6, .methodLink RX5 90 yX6_tempIn, .instanceMethod yX6_tempIn, .selects RX6 yX6_tempIn yX6_tempIn, .methodLink RX5 93 yX0_goHour, .instanceMethod yX0_goHour, .selects RX0 yX0_goHour yX0_goHour, .fieldLink RX5 97 "RiverModel$Course" "held" "[J", .methodLink RX5 101 yX1_reading, .instanceMethod yX1_reading, .selects RX1 yX1_reading yX1_reading, .methodLink RX5 107 Lib.MathLoose.max_long.x, .static Lib.MathLoose.max_long.x, .initialized "java/lang/Math", .code Lib.MathLoose.max_long.x Lib.MathLoose.max_long.code 4 (some .long), .code yX6_rainIn cX6_rainIn 2 (some .int), .fieldLink RX6 9 "RiverModel$Sky" "rains" "[I", .code yX6_tempIn cX6_tempIn 2 (some .int), .fieldLink RX6 15 "RiverModel$Sky" "temps" "[I", .code yX0_goHour cX0_goHour 7 none, .methodLink RX0 72 yX0_bringDue, .instanceMethod yX0_bringDue, .selects RX0 yX0_bringDue yX0_bringDue, .fieldLink RX0 75 "RiverModel$Model" "many" "I", .methodLink RX0 78 yX0_amountOf, .instanceMethod yX0_amountOf, .selects RX0 yX0_amountOf yX0_amountOf, .methodLink RX0 82 yX0_move, .instanceMethod yX0_move, .selects RX0 yX0_move yX0_move, .code yX0_bringDue cX0_bringDue 3 none, .code yX0_amountOf cX0_amountOf 11 (some .long), .methodLink RX0 86 yX4_cell, .instanceMethod yX4_cell, .selects RX4 yX4_cell yX4_cell, .methodLink RX0 110 yX4_gateOf, .instanceMethod yX4_gateOf, .selects RX4 yX4_gateOf yX4_gateOf, .methodLink RX0 113 yX0_openingOf, .instanceMethod yX0_openingOf, .selects RX0 yX0_openingOf yX0_openingOf, .methodLink RX0 107 Lib.MathLoose.min_long.x, .static Lib.MathLoose.min_long.x, .code Lib.MathLoose.min_long.x Lib.MathLoose.min_long.code 4 (some .long), .methodLink RX0 94 yX0_leakOf, .static yX0_leakOf, .constantLong RX0 117 (100), .methodLink RX0 98 yX4_capacityOf, .instanceMethod yX4_capacityOf, .selects RX4 yX4_capacityOf yX4_capacityOf, .methodLink RX0 101 Lib.MathLoose.max_long.x, .constantLong RX0 119 (10), .code yX4_cell cX4_cell 3 (some .int), .fieldLink RX4 9 "RiverModel$Model" "cells" "[I", .code yX4_gateOf cX4_gateOf 3 (some .int), .fieldLink RX4 28 "RiverModel$Model" "gates" "I", .fieldLink RX4 18 "RiverModel$Model" "gateItems" "[I", .code yX0_openingOf cX0_openingOf 2 (some .long), .code yX0_leakOf cX0_leakOf 8 (some .long), .code yX4_capacityOf cX4_capacityOf 2 (some .int), .methodLink RX4 66 yX4_hasStore, .methodLink RX4 73 yX4_cell, .code yX0_move cX0_move 8 none, .methodLink RX0 124 yX0_send, .instanceMethod yX0_send, .selects RX0 yX0_send yX0_send, .code yX0_send cX0_send 5 none, .code yX1_reading cX1_reading 4 (some .long), .methodLink RX1 35 yX1_isSet, .fieldLink RX1 15 "RiverModel$Gauges" "places" "[I", .fieldLink RX1 50 "RiverModel$Course" "held" "[J", .static yX9_isNoItem, .fieldLink RX1 41 "RiverModel$Course" "moved" "[J", .code yX9_isNoItem cX9_isNoItem 1 (some .boolean), .methodLink RX5 63 yX5_takeTried, .instanceMethod yX5_takeTried, .selects RX5 yX5_takeTried yX5_takeTried, .code yX5_takeTried cX5_takeTried 3 none, .fieldLink RX5 21 "RiverModel$Search" "found" "[I", .methodLink RX5 113 arraycopyName] ++ wsX90 ++ wsX50 ++ wsX40 ++ wsX10 ++ wsX00 ++ wsX60)
set_option maxRecDepth 20000 in
theorem gu_X9_best_X9_isNoGate_176 : GoodIn uX9_best (va_wsS RX9 176 yX9_isNoGate uX9_isNoGate) := goodIn_r _ [1, 2, 3, 39] rfl (by decide +kernel)
set_option maxRecDepth 20000 in
theorem gu_X9_best_X9_isOutside_99 : GoodIn uX9_best (va_wsS RX9 99 yX9_isOutside uX9_isOutside) := goodIn_r _ [5, 6, 3, 40] rfl (by decide +kernel)
set_option maxRecDepth 20000 in
theorem gu_X9_best_X9_isNoGauge_205 : GoodIn uX9_best (va_wsS RX9 205 yX9_isNoGauge uX9_isNoGauge) := goodIn_r _ [7, 8, 3, 41] rfl (by decide +kernel)
set_option maxRecDepth 20000 in
theorem gu_X9_best_X9_isNoStore_155 : GoodIn uX9_best (va_wsS RX9 155 yX9_isNoStore uX9_isNoStore) := goodIn_r _ [9, 10, 3, 42] rfl (by decide +kernel)
set_option maxRecDepth 20000 in
theorem gu_X9_best_X9_lacksGate_179 : GoodIn uX9_best (wsV RX9 179 RX9 yX9_lacksGate uX9_lacksGate) := goodIn_r _ [11, 12, 13, 3, 43, 44, 28, 45, 181, 182, 183, 184, 185, 186, 187, 188, 189, 190, 191, 192, 193, 194, 195, 196, 197, 198, 209, 210, 211, 212, 213, 214] rfl (by decide +kernel)
set_option maxRecDepth 20000 in
theorem gu_X9_best_X9_lacksGauge_212 : GoodIn uX9_best (wsV RX9 212 RX9 yX9_lacksGauge uX9_lacksGauge) := goodIn_r _ [14, 15, 16, 3, 46, 44, 30, 47, 48, 49, 50, 51, 52, 181, 182, 183, 184, 185, 186, 187, 188, 189, 190, 191, 192, 193, 194, 195, 196, 197, 198, 215, 216, 217, 218] rfl (by decide +kernel)
set_option maxRecDepth 20000 in
theorem gu_X9_best_X9_lacksStore_160 : GoodIn uX9_best (wsV RX9 160 RX9 yX9_lacksStore uX9_lacksStore) := goodIn_r _ [17, 18, 19, 3, 53, 44, 28, 54, 55, 56, 57, 58, 59, 181, 182, 183, 184, 185, 186, 187, 188, 189, 190, 191, 192, 193, 194, 195, 196, 197, 198, 209, 210, 211, 212, 213, 214] rfl (by decide +kernel)
set_option maxRecDepth 20000 in
theorem gu_X9_best_X9_isBeyond_265 : GoodIn uX9_best (wsV RX9 265 RX9 yX9_isBeyond uX9_isBeyond) := goodIn_r _ [20, 21, 22, 3, 60, 31, 61, 181, 182, 183, 184, 185, 186, 187, 188, 189, 190, 191, 192, 193, 194, 195, 196, 197, 198, 219, 220, 221, 222, 223, 224, 225, 226] rfl (by decide +kernel)
set_option maxRecDepth 20000 in
theorem gu_X9_best_X5_prepare_286 : GoodIn uX9_best (wsV RX9 286 RX5 yX5_prepare uX5_prepare) := goodIn_r _ [24, 25, 26, 27, 62, 63, 64, 65, 66, 67, 68, 199, 200, 201, 202, 203, 204, 205, 206, 207, 208] rfl (by decide +kernel)
set_option maxRecDepth 20000 in
theorem gu_X9_best_X5_tryBlock_0_n : GoodIn uX9_best (uX5_tryBlock_0) := goodIn_r _ [69, 3, 6, 70, 71, 72, 73, 74, 75, 76, 77, 78, 27, 79, 68, 80, 32, 33, 81, 40, 82, 83, 84, 85, 86, 87, 88, 89, 90, 91, 92, 93, 94, 95, 63, 2, 66, 10, 96, 64, 97, 98, 99, 100, 101, 102, 103, 104, 105, 106, 107, 108, 67, 65, 109, 110, 111, 50, 112, 113, 114, 115, 39, 42, 116, 117, 118, 119, 120, 121, 122, 123, 124, 125, 126, 127, 128, 129, 130, 131, 132, 133, 134, 135, 57, 136, 137, 138, 139, 140, 141, 142, 143, 144, 145, 146, 147, 148, 149, 150, 151, 152, 153, 154, 155, 156, 157, 158, 159, 160, 161, 55, 56, 59, 162, 58, 163, 164, 165, 166, 167, 168, 169, 48, 49, 170, 52, 171, 172, 173, 51, 174, 175, 176, 177, 178, 179, 180, 199, 200, 201, 202, 203, 204, 205, 206, 207, 208, 219, 220, 221, 222, 223, 224, 225, 226, 227, 228, 209, 210, 211, 212, 213, 214, 215, 216, 217, 218] rfl (by decide +kernel)
set_option maxHeartbeats 4000000 in
set_option maxRecDepth 100000 in
theorem s_X9_best (l : Launch) (D : va_G) (t : Nat → Nat) (cI cL cC : ClassId) (gC : Int32) (gE : Int32) (G : Nat) (gW : Nat → Int32) (gA : Nat → Int32) (a0 : Nat) (a1 : Int32) (a2 : Int32) (a3 : Int32) (a4 : Int32) (a5 : Int64) (a6 : Int32) (hGb : G ≤ 100000000) (k_a0 : t a0 = 1) : tM l yX9_best uX9_best 9 253 D (gF cI cL cC gC gE G gW gA) (gF cI cL cC gC gE (G + 9324) gW gA) t cI cL cC [.ref a0, .int a1, .int a2, .int a3, .int a4, .long a5, .int a6] wrAll (pL (fun r => True)) := by
  refine tM.ofW (cc := cX9_best) (maxL := 8) (ret := (some .long)) (by decide) rfl (Nat.le_of_ble_eq_true rfl) ?_
  intro p e s m below meth c hx hb hr hml hown hts hlk H locs hG hK hE hS ls hl
  have hl : lv_has ls 8 [(0, .ref a0), (1, .int a1), (2, .int a2), (3, .int a3), (4, .int a4), (5, .long a5), (7, .int a6)] := hl
  have in9 : ∀ w ∈ wsX90, w ∈ uX9_best := fun w h => List.mem_cons_of_mem _ (List.mem_append_left _ (List.mem_append_left _ (List.mem_append_left _ (List.mem_append_left _ (List.mem_append_left _ (List.mem_append_right _ h))))))
  have in5 : ∀ w ∈ wsX50, w ∈ uX9_best := fun w h => List.mem_cons_of_mem _ (List.mem_append_left _ (List.mem_append_left _ (List.mem_append_left _ (List.mem_append_left _ (List.mem_append_right _ h)))))
  refine lv_iload_n hx hb dX9_best_0 rfl (lv_at hl 1 rfl) ?_
  refine ty_calli ((W.runS (As := [.int a1]) (rest := []) ⟨hx, hb, hml, hown, hts⟩ (s_X9_isNoGate l D t cI cL cC gC gE G gW gA a1 ) (va_cwS 1 hts gu_X9_best_X9_isNoGate_176 rfl rfl rfl (by decide +kernel) ⟨Nat.le_of_ble_eq_true rfl, Nat.le_of_ble_eq_true rfl⟩) (tP_S hG hE) rfl rfl hl.1 rfl (lv_room (Nat.le_of_ble_eq_true rfl)) dX9_best_1 ⟨Nat.le_of_ble_eq_true rfl, Nat.le_of_ble_eq_true rfl⟩)) hS (fun k h => by simp [wr0] at h) (fun r_1 H locs hp_2 hG hS o_3 => ?_)
  rcases hp_2 with ⟨rfl, hc_226⟩ | ⟨rfl, hc_227, hc_228⟩
  · skip
    refine lv_if_ne (tgt := 24) hx hb dX9_best_4 (by decide) (fun _ => ?_) (fun q => absurd q (by decide))
    refine lv_ldc2 hx hb hown (hts (.constantLong RX9 158 (-1)) (List.mem_of_getElem? (i := 4) rfl)) dX9_best_24 ?_
    exact ty_lret hx hb hr hlk (hG.weak (fun _ _ => gF_mono (by omega))) hS True.intro dX9_best_27
  · skip
    refine lv_if_ne (tgt := 24) hx hb dX9_best_4 (by decide) (fun q => absurd rfl q) (fun _ => ?_)
    refine lv_iload_n hx hb dX9_best_7 rfl (lv_at hl 2 rfl) ?_
    refine lv_pc (pc2 := 8) rfl ?_
    refine lv_iconst (v := 1) hx hb dX9_best_8 (by decide) ?_
    refine lv_bipush (v := 6) hx hb dX9_best_9 (by decide) ?_
    refine ty_calli ((W.runS (As := [.int a2, .int 1, .int 6]) (rest := []) ⟨hx, hb, hml, hown, hts⟩ (s_X9_isOutside l D t cI cL cC gC gE G gW gA a2 1 6 1 6 (by decide) (by decide) ) (va_cwS 3 hts gu_X9_best_X9_isOutside_99 rfl rfl rfl (by decide +kernel) ⟨Nat.le_of_ble_eq_true rfl, Nat.le_of_ble_eq_true rfl⟩) (tP_S hG hE) rfl rfl hl.1 rfl (lv_room (Nat.le_of_ble_eq_true rfl)) dX9_best_11 ⟨Nat.le_of_ble_eq_true rfl, Nat.le_of_ble_eq_true rfl⟩)) hS (fun k h => by simp [wr0] at h) (fun r_4 H locs hp_5 hG hS o_6 => ?_)
    rcases hp_5 with ⟨rfl, hc_229⟩ | ⟨rfl, hc_230, hc_231⟩
    · skip
      refine lv_if_ne (tgt := 24) hx hb dX9_best_14 (by decide) (fun _ => ?_) (fun q => absurd q (by decide))
      refine lv_ldc2 hx hb hown (hts (.constantLong RX9 158 (-1)) (List.mem_of_getElem? (i := 4) rfl)) dX9_best_24 ?_
      exact ty_lret hx hb hr hlk (hG.weak (fun _ _ => gF_mono (by omega))) hS True.intro dX9_best_27
    · skip
      refine lv_if_ne (tgt := 24) hx hb dX9_best_14 (by decide) (fun q => absurd rfl q) (fun _ => ?_)
      refine lv_iload_n hx hb dX9_best_17 rfl (lv_at hl 3 rfl) ?_
      refine lv_pc (pc2 := 18) rfl ?_
      refine ty_calli ((W.runS (As := [.int a3]) (rest := []) ⟨hx, hb, hml, hown, hts⟩ (s_X9_isNoGauge l D t cI cL cC gC gE G gW gA a3 ) (va_cwS 1 hts gu_X9_best_X9_isNoGauge_205 rfl rfl rfl (by decide +kernel) ⟨Nat.le_of_ble_eq_true rfl, Nat.le_of_ble_eq_true rfl⟩) (tP_S hG hE) rfl rfl hl.1 rfl (lv_room (Nat.le_of_ble_eq_true rfl)) dX9_best_18 ⟨Nat.le_of_ble_eq_true rfl, Nat.le_of_ble_eq_true rfl⟩)) hS (fun k h => by simp [wr0] at h) (fun r_7 H locs hp_8 hG hS o_9 => ?_)
      rcases hp_8 with ⟨rfl, hc_232⟩ | ⟨rfl, hc_233, hc_234⟩
      · skip
        refine lv_if_eq (tgt := 28) hx hb dX9_best_21 (by decide) (fun q => absurd q (by decide)) (fun _ => ?_)
        refine lv_ldc2 hx hb hown (hts (.constantLong RX9 158 (-1)) (List.mem_of_getElem? (i := 4) rfl)) dX9_best_24 ?_
        exact ty_lret hx hb hr hlk (hG.weak (fun _ _ => gF_mono (by omega))) hS True.intro dX9_best_27
      · skip
        refine lv_if_eq (tgt := 28) hx hb dX9_best_21 (by decide) (fun _ => ?_) (fun q => absurd (by decide) q)
        refine lv_iload hx hb dX9_best_28 (lv_at hl 4 rfl) ?_
        refine ty_calli ((W.runS (As := [.int a4]) (rest := []) ⟨hx, hb, hml, hown, hts⟩ (s_X9_isNoStore l D t cI cL cC gC gE G gW gA a4 ) (va_cwS 1 hts gu_X9_best_X9_isNoStore_155 rfl rfl rfl (by decide +kernel) ⟨Nat.le_of_ble_eq_true rfl, Nat.le_of_ble_eq_true rfl⟩) (tP_S hG hE) rfl rfl hl.1 rfl (lv_room (Nat.le_of_ble_eq_true rfl)) dX9_best_30 ⟨Nat.le_of_ble_eq_true rfl, Nat.le_of_ble_eq_true rfl⟩)) hS (fun k h => by simp [wr0] at h) (fun r_10 H locs hp_11 hG hS o_12 => ?_)
        rcases hp_11 with ⟨rfl, hc_235⟩ | ⟨rfl, hc_236, hc_237⟩
        · skip
          refine lv_if_ne (tgt := 46) hx hb dX9_best_33 (by decide) (fun _ => ?_) (fun q => absurd q (by decide))
          refine lv_pc (pc2 := 46) rfl ?_
          refine lv_ldc2 hx hb hown (hts (.constantLong RX9 158 (-1)) (List.mem_of_getElem? (i := 4) rfl)) dX9_best_46 ?_
          exact ty_lret hx hb hr hlk (hG.weak (fun _ _ => gF_mono (by omega))) hS True.intro dX9_best_49
        · skip
          refine lv_if_ne (tgt := 46) hx hb dX9_best_33 (by decide) (fun q => absurd rfl q) (fun _ => ?_)
          refine lv_iload hx hb dX9_best_36 (lv_at hl 6 rfl) ?_
          refine lv_iconst (v := (-1)) hx hb dX9_best_38 (by decide) ?_
          refine lv_iconst (v := 3) hx hb dX9_best_39 (by decide) ?_
          refine ty_calli ((W.runS (As := [.int a6, .int (-1), .int 3]) (rest := []) ⟨hx, hb, hml, hown, hts⟩ (s_X9_isOutside l D t cI cL cC gC gE G gW gA a6 (-1) 3 (-1) 3 (by decide) (by decide) ) (va_cwS 3 hts gu_X9_best_X9_isOutside_99 rfl rfl rfl (by decide +kernel) ⟨Nat.le_of_ble_eq_true rfl, Nat.le_of_ble_eq_true rfl⟩) (tP_S hG hE) rfl rfl hl.1 rfl (lv_room (Nat.le_of_ble_eq_true rfl)) dX9_best_40 ⟨Nat.le_of_ble_eq_true rfl, Nat.le_of_ble_eq_true rfl⟩)) hS (fun k h => by simp [wr0] at h) (fun r_13 H locs hp_14 hG hS o_15 => ?_)
          rcases hp_14 with ⟨rfl, hc_238⟩ | ⟨rfl, hc_239, hc_240⟩
          · skip
            refine lv_if_eq (tgt := 50) hx hb dX9_best_43 (by decide) (fun q => absurd q (by decide)) (fun _ => ?_)
            refine lv_pc (pc2 := 46) rfl ?_
            refine lv_ldc2 hx hb hown (hts (.constantLong RX9 158 (-1)) (List.mem_of_getElem? (i := 4) rfl)) dX9_best_46 ?_
            exact ty_lret hx hb hr hlk (hG.weak (fun _ _ => gF_mono (by omega))) hS True.intro dX9_best_49
          · skip
            refine lv_if_eq (tgt := 50) hx hb dX9_best_43 (by decide) (fun _ => ?_) (fun q => absurd (by decide) q)
            refine lv_aload_n hx hb dX9_best_50 rfl (lv_at hl 0 rfl) ?_
            refine lv_iload_n hx hb dX9_best_51 rfl (lv_at hl 1 rfl) ?_
            obtain ⟨r_16, r_18, r_20, r_22, v_24, v_25, r_26, r_28, r_30, r_32, r_34, r_36, r_38, v_40, r_42, r_44, r_46, r_48, at_50, h_17, h_19, h_21, h_23, h_27, h_29, h_31, h_33, h_35, h_37, h_39, h_41, h_43, h_45, h_47, h_49⟩ := gF_o1 hG k_a0
            refine ty_calli ((W.runV (As := [.int a1]) (rest := []) ⟨hx, hb, hml, hown, hts⟩ (s_X9_lacksGate l D t cI cL cC gC gE G gW gA a0 a1 k_a0) (cwV 1 hts gu_X9_best_X9_lacksGate_179 rfl rfl rfl (by decide +kernel) ⟨Nat.le_of_ble_eq_true rfl, Nat.le_of_ble_eq_true rfl⟩) (tP_V hG hE at_50 rfl) rfl rfl hl.1 rfl (lv_room (Nat.le_of_ble_eq_true rfl)) dX9_best_52 ⟨Nat.le_of_ble_eq_true rfl, Nat.le_of_ble_eq_true rfl⟩)) hS (fun k h => by simp [wr0] at h) (fun r_51 H locs hp_52 hG hS o_53 => ?_)
            have at_50 := va_at.keptC at_50 o_53 k_a0 rfl
            rcases hp_52 with rfl | rfl
            · skip
              refine lv_if_ne (tgt := 85) hx hb dX9_best_55 (by decide) (fun q => absurd rfl q) (fun _ => ?_)
              refine lv_aload_n hx hb dX9_best_58 rfl (lv_at hl 0 rfl) ?_
              refine lv_pc (pc2 := 59) rfl ?_
              refine lv_iload_n hx hb dX9_best_59 rfl (lv_at hl 3 rfl) ?_
              refine ty_calli ((W.runV (As := [.int a3]) (rest := []) ⟨hx, hb, hml, hown, hts⟩ (s_X9_lacksGauge l D t cI cL cC gC gE G gW gA a0 a3 k_a0) (cwV 1 hts gu_X9_best_X9_lacksGauge_212 rfl rfl rfl (by decide +kernel) ⟨Nat.le_of_ble_eq_true rfl, Nat.le_of_ble_eq_true rfl⟩) (tP_V hG hE at_50 rfl) rfl rfl hl.1 rfl (lv_room (Nat.le_of_ble_eq_true rfl)) dX9_best_60 ⟨Nat.le_of_ble_eq_true rfl, Nat.le_of_ble_eq_true rfl⟩)) hS (fun k h => by simp [wr0] at h) (fun r_54 H locs hp_55 hG hS o_56 => ?_)
              have at_50 := va_at.keptC at_50 o_56 k_a0 rfl
              rcases hp_55 with rfl | rfl
              · skip
                refine lv_if_ne (tgt := 85) hx hb dX9_best_63 (by decide) (fun q => absurd rfl q) (fun _ => ?_)
                refine lv_aload_n hx hb dX9_best_66 rfl (lv_at hl 0 rfl) ?_
                refine lv_iload hx hb dX9_best_67 (lv_at hl 4 rfl) ?_
                refine ty_calli ((W.runV (As := [.int a4]) (rest := []) ⟨hx, hb, hml, hown, hts⟩ (s_X9_lacksStore l D t cI cL cC gC gE G gW gA a0 a4 k_a0) (cwV 1 hts gu_X9_best_X9_lacksStore_160 rfl rfl rfl (by decide +kernel) ⟨Nat.le_of_ble_eq_true rfl, Nat.le_of_ble_eq_true rfl⟩) (tP_V hG hE at_50 rfl) rfl rfl hl.1 rfl (lv_room (Nat.le_of_ble_eq_true rfl)) dX9_best_69 ⟨Nat.le_of_ble_eq_true rfl, Nat.le_of_ble_eq_true rfl⟩)) hS (fun k h => by simp [wr0] at h) (fun r_57 H locs hp_58 hG hS o_59 => ?_)
                have at_50 := va_at.keptC at_50 o_59 k_a0 rfl
                rcases hp_58 with rfl | rfl
                · skip
                  refine lv_if_ne (tgt := 85) hx hb dX9_best_72 (by decide) (fun q => absurd rfl q) (fun _ => ?_)
                  refine lv_aload_n hx hb dX9_best_75 rfl (lv_at hl 0 rfl) ?_
                  refine lv_pc (pc2 := 76) rfl ?_
                  refine lv_iconst (v := 4) hx hb dX9_best_76 (by decide) ?_
                  refine lv_iload_n hx hb dX9_best_77 rfl (lv_at hl 2 rfl) ?_
                  refine lv_imul hx hb dX9_best_78 ?_
                  refine lv_topi (fun x_60 e_61 => ?_)
                  refine ty_calli ((W.runV (As := [.int x_60]) (rest := []) ⟨hx, hb, hml, hown, hts⟩ (s_X9_isBeyond l D t cI cL cC gC gE G gW gA a0 x_60 k_a0) (cwV 1 hts gu_X9_best_X9_isBeyond_265 rfl rfl rfl (by decide +kernel) ⟨Nat.le_of_ble_eq_true rfl, Nat.le_of_ble_eq_true rfl⟩) (tP_V hG hE at_50 rfl) rfl rfl hl.1 rfl (lv_room (Nat.le_of_ble_eq_true rfl)) dX9_best_79 ⟨Nat.le_of_ble_eq_true rfl, Nat.le_of_ble_eq_true rfl⟩)) hS (fun k h => by simp [wr0] at h) (fun r_62 H locs hp_63 hG hS o_64 => ?_)
                  have at_50 := va_at.keptC at_50 o_64 k_a0 rfl
                  rcases hp_63 with rfl | rfl
                  · skip
                    refine lv_if_eq (tgt := 89) hx hb dX9_best_82 (by decide) (fun _ => ?_) (fun q => absurd (by decide) q)
                    refine lv_aload_n hx hb dX9_best_89 rfl (lv_at hl 0 rfl) ?_
                    refine va_get (D := D) (ci := 8) (v := .ref r_48) (C := RX9) (T := TX9) (N := 18) hx hb hts in9 hown hK (va_one at_50) 0 rfl rfl 17 (by decide) (hts (.fieldLink RX9 95 "RiverModel" "search" "LRiverModel$Search;") (List.mem_of_getElem? (i := 23) rfl)) (fun _ h9 => h9) rfl dX9_best_90 ?_
                    refine lv_iload_n hx hb dX9_best_93 rfl (lv_at hl 1 rfl) ?_
                    refine lv_pc (pc2 := 94) rfl ?_
                    refine lv_iload_n hx hb dX9_best_94 rfl (lv_at hl 2 rfl) ?_
                    refine lv_iload_n hx hb dX9_best_95 rfl (lv_at hl 3 rfl) ?_
                    refine lv_iload hx hb dX9_best_96 (lv_at hl 4 rfl) ?_
                    refine lv_lload hx hb dX9_best_98 (lv_at hl 5 rfl) ?_
                    obtain ⟨r_65, r_67, r_69, v_71, v_72, v_73, v_75, v_77, v_78, v_80, at_81, h_66, h_68, h_70, h_74, h_76, h_79⟩ := gF_o9 hG h_49
                    refine ty_callv ((W.runV (As := [.int a1, .int a2, .int a3, .int a4, .long a5]) (rest := []) ⟨hx, hb, hml, hown, hts⟩ (s_X5_prepare l D t cI cL cC gC gE G gW gA r_48 a1 a2 a3 a4 a5 (by omega) (by omega) (by omega) (by omega) (by omega) (by omega) h_49) (cwV 5 hts gu_X9_best_X5_prepare_286 rfl rfl rfl (by decide +kernel) ⟨Nat.le_of_ble_eq_true rfl, Nat.le_of_ble_eq_true rfl⟩) (tP_V hG hE at_81 rfl) rfl rfl hl.1 rfl (lv_room (Nat.le_of_ble_eq_true rfl)) dX9_best_100 ⟨Nat.le_of_ble_eq_true rfl, Nat.le_of_ble_eq_true rfl⟩)) hS (wrL_sub (by decide)) (fun H locs hp_83 hG hS o_84 => ?_)
                    have at_50 := va_at.keptC at_50 o_84 k_a0 rfl
                    refine lv_aload_n hx hb dX9_best_103 rfl (lv_at hl 0 rfl) ?_
                    refine va_get (D := D) (ci := 8) (v := .ref r_48) (C := RX9) (T := TX9) (N := 18) hx hb hts in9 hown hK (va_one at_50) 0 rfl rfl 17 (by decide) (hts (.fieldLink RX9 95 "RiverModel" "search" "LRiverModel$Search;") (List.mem_of_getElem? (i := 23) rfl)) (fun _ h9 => h9) rfl dX9_best_104 ?_
                    refine lv_aload_n hx hb dX9_best_107 rfl (lv_at hl 0 rfl) ?_
                    refine lv_pc (pc2 := 108) rfl ?_
                    refine va_get (D := D) (ci := 8) (v := .ref r_18) (C := RX9) (T := TX9) (N := 18) hx hb hts in9 hown hK (va_one at_50) 0 rfl rfl 1 (by decide) (hts (.fieldLink RX9 19 "RiverModel" "model" "LRiverModel$Model;") (List.mem_of_getElem? (i := 28) rfl)) (fun _ h9 => h9) rfl dX9_best_108 ?_
                    refine lv_aload_n hx hb dX9_best_111 rfl (lv_at hl 0 rfl) ?_
                    refine va_get (D := D) (ci := 8) (v := .ref r_26) (C := RX9) (T := TX9) (N := 18) hx hb hts in9 hown hK (va_one at_50) 0 rfl rfl 6 (by decide) (hts (.fieldLink RX9 39 "RiverModel" "skyA" "LRiverModel$Sky;") (List.mem_of_getElem? (i := 29) rfl)) (fun _ h9 => h9) rfl dX9_best_112 ?_
                    refine lv_aload_n hx hb dX9_best_115 rfl (lv_at hl 0 rfl) ?_
                    refine va_get (D := D) (ci := 8) (v := .ref r_42) (C := RX9) (T := TX9) (N := 18) hx hb hts in9 hown hK (va_one at_50) 0 rfl rfl 14 (by decide) (hts (.fieldLink RX9 74 "RiverModel" "gauges" "LRiverModel$Gauges;") (List.mem_of_getElem? (i := 30) rfl)) (fun _ h9 => h9) rfl dX9_best_116 ?_
                    refine lv_aload_n hx hb dX9_best_119 rfl (lv_at hl 0 rfl) ?_
                    refine va_get (D := D) (ci := 8) (v := .ref r_32) (C := RX9) (T := TX9) (N := 18) hx hb hts in9 hown hK (va_one at_50) 0 rfl rfl 9 (by decide) (hts (.fieldLink RX9 53 "RiverModel" "now" "LRiverModel$Course;") (List.mem_of_getElem? (i := 31) rfl)) (fun _ h9 => h9) rfl dX9_best_120 ?_
                    refine lv_iconst (v := 0) hx hb dX9_best_123 (by decide) ?_
                    refine lv_pc (pc2 := 124) rfl ?_
                    refine lv_lconst (v := 0) hx hb dX9_best_124 (by decide) ?_
                    obtain ⟨r_85, r_87, r_89, v_91, v_92, v_93, v_95, v_97, v_98, v_100, at_101, h_86, h_88, h_90, h_94, h_96, h_99⟩ := gF_o9 hG h_49
                    refine ty_callv (tRun (va_runVN (As := [.ref r_18, .ref r_26, .ref r_42, .ref r_32, .int 0, .long 0]) (rest := []) ⟨hx, hb, hml, hown, hts⟩ (s_X5_tryBlock_0 l D t cI cL cC gC gE G gW gA r_48 r_18 r_26 r_42 r_32 0 (by omega) h_49 h_19 h_27 h_43 h_33) ⟨(va_cnB 6 hts gu_X9_best_X5_tryBlock_0_n rfl rfl rfl (hE.2.1 _ (List.mem_of_getElem? (i := 22) rfl)) (hts (.initialized RX5) (List.mem_of_getElem? (i := 27) rfl)) (by decide +kernel) ⟨Nat.le_of_ble_eq_true rfl, Nat.le_of_ble_eq_true rfl⟩), (hts (.instanceMethod yX5_tryBlock) (List.mem_of_getElem? (i := 32) rfl)), (hts (.selects RX5 yX5_tryBlock yX5_tryBlock) (List.mem_of_getElem? (i := 33) rfl))⟩ (tP_V hG hE at_101 rfl) rfl rfl hl.1 rfl (lv_room (Nat.le_of_ble_eq_true rfl)) dX9_best_125 ⟨Nat.le_of_ble_eq_true rfl, Nat.le_of_ble_eq_true rfl⟩)) hS (wrL_sub (by decide)) (fun H locs hp_103 hG hS o_104 => ?_)
                    have at_50 := va_at.keptC at_50 o_104 k_a0 rfl
                    refine lv_aload_n hx hb dX9_best_128 rfl (lv_at hl 0 rfl) ?_
                    refine va_get (D := D) (ci := 8) (v := .ref r_48) (C := RX9) (T := TX9) (N := 18) hx hb hts in9 hown hK (va_one at_50) 0 rfl rfl 17 (by decide) (hts (.fieldLink RX9 95 "RiverModel" "search" "LRiverModel$Search;") (List.mem_of_getElem? (i := 23) rfl)) (fun _ h9 => h9) rfl dX9_best_129 ?_
                    obtain ⟨r_105, r_107, r_109, v_111, v_112, v_113, v_115, v_117, v_118, v_120, at_121, h_106, h_108, h_110, h_114, h_116, h_119⟩ := gF_o9 hG h_49
                    refine va_get (D := D) (ci := 4) (v := .int v_111) (C := RX5) (T := TX5) (N := 10) hx hb hts in5 hown hK (va_one at_121) 0 rfl rfl 3 (by decide) (hts (.fieldLink RX9 294 "RiverModel$Search" "isFound" "Z") (List.mem_of_getElem? (i := 34) rfl)) (fun _ h9 => h9) rfl dX9_best_132 ?_
                    refine lv_if_ne (tgt := 142) hx hb dX9_best_135 (by decide) (fun c_122 => ?_) (fun c_122 => ?_)
                    · skip
                      have c_122 : v_111.toInt ≠ 0 := q_ne c_122
                      refine lv_iload hx hb dX9_best_142 (lv_at hl 6 rfl) ?_
                      refine lv_if_ge (tgt := 157) hx hb dX9_best_144 (by decide) (fun c_123 => ?_) (fun c_123 => ?_)
                      · skip
                        have c_123 : 0 ≤ a6.toInt := q_le c_123
                        refine lv_pc (pc2 := 157) rfl ?_
                        refine lv_aload_n hx hb dX9_best_157 rfl (lv_at hl 0 rfl) ?_
                        refine va_get (D := D) (ci := 8) (v := .ref r_48) (C := RX9) (T := TX9) (N := 18) hx hb hts in9 hown hK (va_one at_50) 0 rfl rfl 17 (by decide) (hts (.fieldLink RX9 95 "RiverModel" "search" "LRiverModel$Search;") (List.mem_of_getElem? (i := 23) rfl)) (fun _ h9 => h9) rfl dX9_best_158 ?_
                        refine va_get (D := D) (ci := 4) (v := .ref r_109) (C := RX5) (T := TX5) (N := 10) hx hb hts in5 hown hK (va_one at_121) 0 rfl rfl 2 (by decide) (hts (.fieldLink RX9 302 "RiverModel$Search" "found" "[I") (List.mem_of_getElem? (i := 35) rfl)) (fun _ h9 => h9) rfl dX9_best_161 ?_
                        refine lv_iload hx hb dX9_best_164 (lv_at hl 6 rfl) ?_
                        obtain ⟨f_124, at_125⟩ := gF_o34 hG h_110
                        have b_126 : vp_in a6 4 := (q_in (by omega) (by omega))
                        refine va_iald hx hb hK (va_one at_125) 0 0 rfl rfl b_126 dX9_best_166 ?_
                        refine lv_topi (fun x_127 e_128 => ?_)
                        refine lv_i2l (v := x_127.toInt64) hx hb dX9_best_167 rfl ?_
                        exact ty_lret hx hb hr hlk hG hS True.intro dX9_best_168
                      · skip
                        have c_123 : a6.toInt < 0 := q_nle c_123
                        refine lv_aload_n hx hb dX9_best_147 rfl (lv_at hl 0 rfl) ?_
                        refine lv_pc (pc2 := 148) rfl ?_
                        refine va_get (D := D) (ci := 8) (v := .ref r_48) (C := RX9) (T := TX9) (N := 18) hx hb hts in9 hown hK (va_one at_50) 0 rfl rfl 17 (by decide) (hts (.fieldLink RX9 95 "RiverModel" "search" "LRiverModel$Search;") (List.mem_of_getElem? (i := 23) rfl)) (fun _ h9 => h9) rfl dX9_best_148 ?_
                        refine va_get (D := D) (ci := 4) (v := .long v_112) (C := RX5) (T := TX5) (N := 10) hx hb hts in5 hown hK (va_one at_121) 0 rfl rfl 4 (by decide) (hts (.fieldLink RX9 299 "RiverModel$Search" "leastPeak" "J") (List.mem_of_getElem? (i := 36) rfl)) (fun _ h9 => h9) rfl dX9_best_151 ?_
                        refine lv_goto (tgt := 168) hx hb dX9_best_154 (by decide) ?_
                        exact ty_lret hx hb hr hlk hG hS True.intro dX9_best_168
                    · skip
                      have c_122 : v_111.toInt = 0 := q_eq c_122
                      refine lv_ldc2 hx hb hown (hts (.constantLong RX9 297 (-4)) (List.mem_of_getElem? (i := 37) rfl)) dX9_best_138 ?_
                      exact ty_lret hx hb hr hlk hG hS True.intro dX9_best_141
                  · skip
                    refine lv_if_eq (tgt := 89) hx hb dX9_best_82 (by decide) (fun q => absurd q (by decide)) (fun _ => ?_)
                    refine lv_ldc2 hx hb hown (hts (.constantLong RX9 163 (-2)) (List.mem_of_getElem? (i := 38) rfl)) dX9_best_85 ?_
                    refine lv_pc (pc2 := 88) rfl ?_
                    exact ty_lret hx hb hr hlk (hG.weak (fun _ _ => gF_mono (by omega))) hS True.intro dX9_best_88
                · skip
                  refine lv_if_ne (tgt := 85) hx hb dX9_best_72 (by decide) (fun _ => ?_) (fun q => absurd q (by decide))
                  refine lv_ldc2 hx hb hown (hts (.constantLong RX9 163 (-2)) (List.mem_of_getElem? (i := 38) rfl)) dX9_best_85 ?_
                  exact ty_lret hx hb hr hlk (hG.weak (fun _ _ => gF_mono (by omega))) hS True.intro dX9_best_88
              · skip
                refine lv_if_ne (tgt := 85) hx hb dX9_best_63 (by decide) (fun _ => ?_) (fun q => absurd q (by decide))
                refine lv_ldc2 hx hb hown (hts (.constantLong RX9 163 (-2)) (List.mem_of_getElem? (i := 38) rfl)) dX9_best_85 ?_
                exact ty_lret hx hb hr hlk (hG.weak (fun _ _ => gF_mono (by omega))) hS True.intro dX9_best_88
            · skip
              refine lv_if_ne (tgt := 85) hx hb dX9_best_55 (by decide) (fun _ => ?_) (fun q => absurd q (by decide))
              refine lv_pc (pc2 := 85) rfl ?_
              refine lv_ldc2 hx hb hown (hts (.constantLong RX9 163 (-2)) (List.mem_of_getElem? (i := 38) rfl)) dX9_best_85 ?_
              exact ty_lret hx hb hr hlk (hG.weak (fun _ _ => gF_mono (by omega))) hS True.intro dX9_best_88

def uX9_swap : List Cond := .code yX9_swap cX9_swap 2 (some .int) :: ([.methodLink RX9 127 yX9_isNoItem, .static yX9_isNoItem, .initialized RX9, .methodLink RX9 131 yX9_lacksItem, .instanceMethod yX9_lacksItem, .selects RX9 yX9_lacksItem yX9_lacksItem, .fieldLink RX9 10 "RiverModel" "text" "LRiverModel$Text;", .methodLink RX9 305 yX7_readAlone, .instanceMethod yX7_readAlone, .selects RX7 yX7_readAlone yX7_readAlone, .initialized RX7, .fieldLink RX9 19 "RiverModel" "model" "LRiverModel$Model;", .fieldLink RX9 309 "RiverModel$Text" "row" "[I", .methodLink RX9 312 yX4_mayReplace, .instanceMethod yX4_mayReplace, .selects RX4 yX4_mayReplace yX4_mayReplace, .initialized RX4, .fieldLink RX9 26 "RiverModel" "other" "LRiverModel$Model;", .methodLink RX9 316 yX4_copyFrom, .instanceMethod yX4_copyFrom, .selects RX4 yX4_copyFrom yX4_copyFrom, .methodLink RX9 319 yX4_put, .instanceMethod yX4_put, .selects RX4 yX4_put yX4_put, .fieldLink RX9 33 "RiverModel" "isOtherLaid" "Z", .code yX9_isNoItem cX9_isNoItem 1 (some .boolean), .code yX9_lacksItem cX9_lacksItem 2 (some .boolean), .fieldLink RX9 29 "RiverModel" "isBuilt" "Z", .fieldLink RX9 124 "RiverModel$Model" "many" "I", .code yX7_readAlone cX7_readAlone 1 (some .boolean), .fieldLink RX7 22 "RiverModel$Text" "at" "I", .methodLink RX7 30 yX7_readItem, .instanceMethod yX7_readItem, .selects RX7 yX7_readItem yX7_readItem, .fieldLink RX7 18 "RiverModel$Text" "length" "I", .code yX7_readItem cX7_readItem 5 (some .boolean), .fieldLink RX7 15 "RiverModel$Text" "row" "[I", .methodLink RX7 42 yJ7_fill_53178, .static yJ7_fill_53178, .initialized RJ7, .methodLink RX7 48 yX7_nextByte, .instanceMethod yX7_nextByte, .selects RX7 yX7_nextByte yX7_nextByte, .methodLink RX7 52 yX2_namesOf, .static yX2_namesOf, .initialized RX2, .methodLink RX7 62 yX2_numbersOf, .static yX2_numbersOf, .methodLink RX7 65 yX7_readNumber, .instanceMethod yX7_readNumber, .selects RX7 yX7_readNumber yX7_readNumber, .methodLink RX7 58 yX7_readName, .instanceMethod yX7_readName, .selects RX7 yX7_readName yX7_readName, .code yJ7_fill_53178 cJ7_fill_53178 4 none, .code yX7_nextByte cX7_nextByte 1 (some .int), .fieldLink RX7 9 "RiverModel$Text" "bytes" "[I", .code yX2_namesOf cX2_namesOf 1 (some .int), .code yX2_numbersOf cX2_numbersOf 1 (some .int), .code yX7_readNumber cX7_readNumber 4 (some .boolean), .methodLink RX7 71 yX7_isAtFigure, .instanceMethod yX7_isAtFigure, .selects RX7 yX7_isAtFigure yX7_isAtFigure, .code yX7_isAtFigure cX7_isAtFigure 1 (some .boolean), .static yX9_isOutside, .code yX9_isOutside cX9_isOutside 3 (some .boolean), .code yX7_readName cX7_readName 3 (some .boolean), .static yX9_isNoStore, .code yX9_isNoStore cX9_isNoStore 1 (some .boolean), .code yX4_mayReplace cX4_mayReplace 4 (some .boolean), .methodLink RX4 73 yX4_cell, .instanceMethod yX4_cell, .selects RX4 yX4_cell yX4_cell, .methodLink RX4 62 yX4_areNumbersAsTold, .static yX4_areNumbersAsTold, .methodLink RX4 69 yX4_areNamesAhead, .instanceMethod yX4_areNamesAhead, .selects RX4 yX4_areNamesAhead yX4_areNamesAhead, .code yX4_cell cX4_cell 3 (some .int), .fieldLink RX4 9 "RiverModel$Model" "cells" "[I", .code yX4_areNumbersAsTold cX4_areNumbersAsTold 1 (some .boolean), .methodLink RX4 77 yX2_areNumbersAsTold, .static yX2_areNumbersAsTold, .code yX2_areNumbersAsTold cX2_areNumbersAsTold 4 (some .boolean), .methodLink RX2 10 yX2_isUpTo, .static yX2_isUpTo, .constant RX2 9 (1000000), .code yX2_isUpTo cX2_isUpTo 2 (some .boolean), .code yX4_areNamesAhead cX4_areNamesAhead 5 (some .boolean), .methodLink RX4 82 yX4_isStoreAhead, .instanceMethod yX4_isStoreAhead, .selects RX4 yX4_isStoreAhead yX4_isStoreAhead, .code yX4_isStoreAhead cX4_isStoreAhead 3 (some .boolean), .methodLink RX4 66 yX4_hasStore, .instanceMethod yX4_hasStore, .selects RX4 yX4_hasStore yX4_hasStore, .fieldLink RX4 15 "RiverModel$Model" "storeItems" "[I", .code yX4_hasStore cX4_hasStore 2 (some .boolean), .code yX4_copyFrom cX4_copyFrom 2 none, .methodLink RX4 37 arraycopyName, .native arraycopyName, .static arraycopyName, .initialized "java/lang/System", .fieldLink RX4 18 "RiverModel$Model" "gateItems" "[I", .fieldLink RX4 21 "RiverModel$Model" "many" "I", .fieldLink RX4 25 "RiverModel$Model" "stores" "I", .fieldLink RX4 28 "RiverModel$Model" "gates" "I", .code yX4_put cX4_put 4 none, .methodLink RX4 51 yX4_putCell, .instanceMethod yX4_putCell, .selects RX4 yX4_putCell yX4_putCell, .code yX4_putCell cX4_putCell 4 none] ++ wsX90 ++ wsX70 ++ wsX40)
set_option maxRecDepth 20000 in
theorem gu_X9_swap_X9_isNoItem_127 : GoodIn uX9_swap (va_wsS RX9 127 yX9_isNoItem uX9_isNoItem) := goodIn_r _ [1, 2, 3, 26] rfl (by decide +kernel)
set_option maxRecDepth 20000 in
theorem gu_X9_swap_X9_lacksItem_131 : GoodIn uX9_swap (wsV RX9 131 RX9 yX9_lacksItem uX9_lacksItem) := goodIn_r _ [4, 5, 6, 3, 27, 28, 12, 29, 113, 114, 115, 116, 117, 118, 119, 120, 121, 122, 123, 124, 125, 126, 127, 128, 129, 130, 135, 136, 137, 138, 139, 140] rfl (by decide +kernel)
set_option maxRecDepth 20000 in
theorem gu_X9_swap_X7_readAlone_305 : GoodIn uX9_swap (wsV RX9 305 RX7 yX7_readAlone uX7_readAlone) := goodIn_r _ [8, 9, 10, 11, 30, 31, 32, 33, 34, 11, 35, 36, 37, 38, 39, 40, 41, 42, 43, 44, 45, 46, 47, 48, 49, 50, 51, 52, 53, 54, 55, 56, 57, 58, 59, 60, 61, 62, 63, 64, 3, 65, 66, 67, 68, 69, 131, 132, 133, 134] rfl (by decide +kernel)
set_option maxRecDepth 20000 in
theorem gu_X9_swap_X4_mayReplace_312 : GoodIn uX9_swap (wsV RX9 312 RX4 yX4_mayReplace uX4_mayReplace) := goodIn_r _ [14, 15, 16, 17, 70, 71, 72, 73, 17, 74, 75, 76, 77, 78, 79, 80, 81, 82, 83, 46, 84, 85, 86, 87, 88, 89, 90, 91, 92, 93, 94, 95, 96, 97, 98, 135, 136, 137, 138, 139, 140] rfl (by decide +kernel)
set_option maxRecDepth 20000 in
theorem gu_X9_swap_X4_copyFrom_316 : GoodIn uX9_swap (wsV RX9 316 RX4 yX4_copyFrom uX4_copyFrom) := goodIn_r _ [19, 20, 21, 17, 99, 80, 100, 101, 102, 103, 97, 104, 105, 106, 107, 135, 136, 137, 138, 139, 140] rfl (by decide +kernel)
set_option maxRecDepth 20000 in
theorem gu_X9_swap_X4_put_319 : GoodIn uX9_swap (wsV RX9 319 RX4 yX4_put uX4_put) := goodIn_r _ [22, 23, 24, 17, 108, 109, 110, 111, 17, 112, 3, 2, 65, 80, 26, 66, 135, 136, 137, 138, 139, 140] rfl (by decide +kernel)
set_option maxHeartbeats 4000000 in
set_option maxRecDepth 100000 in
theorem s_X9_swap (l : Launch) (D : va_G) (t : Nat → Nat) (cI cL cC : ClassId) (gC : Int32) (gE : Int32) (G : Nat) (gW : Nat → Int32) (gA : Nat → Int32) (a0 : Nat) (a1 : Int32) (k_a0 : t a0 = 1) : tM l yX9_swap uX9_swap 5 109 D (gF cI cL cC gC gE G gW gA) (gF cI cL cC gC gE G gW gA) t cI cL cC [.ref a0, .int a1] wrAll (pI (fun r => True)) := by
  refine tM.ofW (cc := cX9_swap) (maxL := 2) (ret := (some .int)) (by decide) rfl (Nat.le_of_ble_eq_true rfl) ?_
  intro p e s m below meth c hx hb hr hml hown hts hlk H locs hG hK hE hS ls hl
  have hl : lv_has ls 2 [(0, .ref a0), (1, .int a1)] := hl
  have in9 : ∀ w ∈ wsX90, w ∈ uX9_swap := fun w h => List.mem_cons_of_mem _ (List.mem_append_left _ (List.mem_append_left _ (List.mem_append_right _ h)))
  have in7 : ∀ w ∈ wsX70, w ∈ uX9_swap := fun w h => List.mem_cons_of_mem _ (List.mem_append_left _ (List.mem_append_right _ h))
  refine lv_iload_n hx hb dX9_swap_0 rfl (lv_at hl 1 rfl) ?_
  refine ty_calli ((W.runS (As := [.int a1]) (rest := []) ⟨hx, hb, hml, hown, hts⟩ (s_X9_isNoItem l D t cI cL cC gC gE G gW gA a1 ) (va_cwS 1 hts gu_X9_swap_X9_isNoItem_127 rfl rfl rfl (by decide +kernel) ⟨Nat.le_of_ble_eq_true rfl, Nat.le_of_ble_eq_true rfl⟩) (tP_S hG hE) rfl rfl hl.1 rfl (lv_room (Nat.le_of_ble_eq_true rfl)) dX9_swap_1 ⟨Nat.le_of_ble_eq_true rfl, Nat.le_of_ble_eq_true rfl⟩)) hS (fun k h => by simp [wr0] at h) (fun r_1 H locs hp_2 hG hS o_3 => ?_)
  rcases hp_2 with ⟨rfl, hc_241⟩ | ⟨rfl, hc_242, hc_243⟩
  · skip
    refine lv_if_eq (tgt := 9) hx hb dX9_swap_4 (by decide) (fun q => absurd q (by decide)) (fun _ => ?_)
    refine lv_iconst (v := (-1)) hx hb dX9_swap_7 (by decide) ?_
    exact ty_iret hx hb hr hlk hG hS True.intro dX9_swap_8
  · skip
    refine lv_if_eq (tgt := 9) hx hb dX9_swap_4 (by decide) (fun _ => ?_) (fun q => absurd (by decide) q)
    refine lv_aload_n hx hb dX9_swap_9 rfl (lv_at hl 0 rfl) ?_
    refine lv_pc (pc2 := 10) rfl ?_
    refine lv_iload_n hx hb dX9_swap_10 rfl (lv_at hl 1 rfl) ?_
    obtain ⟨r_4, r_6, r_8, r_10, v_12, v_13, r_14, r_16, r_18, r_20, r_22, r_24, r_26, v_28, r_30, r_32, r_34, r_36, at_38, h_5, h_7, h_9, h_11, h_15, h_17, h_19, h_21, h_23, h_25, h_27, h_29, h_31, h_33, h_35, h_37⟩ := gF_o1 hG k_a0
    refine ty_calli ((W.runV (As := [.int a1]) (rest := []) ⟨hx, hb, hml, hown, hts⟩ (s_X9_lacksItem l D t cI cL cC gC gE G gW gA a0 a1 k_a0) (cwV 1 hts gu_X9_swap_X9_lacksItem_131 rfl rfl rfl (by decide +kernel) ⟨Nat.le_of_ble_eq_true rfl, Nat.le_of_ble_eq_true rfl⟩) (tP_V hG hE at_38 rfl) rfl rfl hl.1 rfl (lv_room (Nat.le_of_ble_eq_true rfl)) dX9_swap_11 ⟨Nat.le_of_ble_eq_true rfl, Nat.le_of_ble_eq_true rfl⟩)) hS (fun k h => by simp [wr0] at h) (fun r_39 H locs hp_40 hG hS o_41 => ?_)
    have at_38 := va_at.keptC at_38 o_41 k_a0 rfl
    rcases hp_40 with rfl | rfl
    · skip
      refine lv_if_ne (tgt := 45) hx hb dX9_swap_14 (by decide) (fun q => absurd rfl q) (fun _ => ?_)
      refine lv_aload_n hx hb dX9_swap_17 rfl (lv_at hl 0 rfl) ?_
      refine va_get (D := D) (ci := 8) (v := .ref r_4) (C := RX9) (T := TX9) (N := 18) hx hb hts in9 hown hK (va_one at_38) 0 rfl rfl 0 (by decide) (hts (.fieldLink RX9 10 "RiverModel" "text" "LRiverModel$Text;") (List.mem_of_getElem? (i := 7) rfl)) (fun _ h9 => h9) rfl dX9_swap_18 ?_
      obtain ⟨r_42, r_44, v_46, at_48, h_43, h_45, h_47⟩ := gF_o2 hG h_5
      refine ty_calli ((W.runV (As := []) (rest := []) ⟨hx, hb, hml, hown, hts⟩ (s_X7_readAlone l D t cI cL cC gC gE G gW gA r_4 h_5) (cwV 0 hts gu_X9_swap_X7_readAlone_305 rfl rfl rfl (by decide +kernel) ⟨Nat.le_of_ble_eq_true rfl, Nat.le_of_ble_eq_true rfl⟩) (tP_V hG hE at_48 rfl) rfl rfl hl.1 rfl (lv_room (Nat.le_of_ble_eq_true rfl)) dX9_swap_21 ⟨Nat.le_of_ble_eq_true rfl, Nat.le_of_ble_eq_true rfl⟩)) hS (wrL_sub (by decide)) (fun r_49 H locs hp_50 hG hS o_51 => ?_)
      have at_38 := va_at.keptC at_38 o_51 k_a0 rfl
      rcases hp_50 with rfl | rfl
      · skip
        refine lv_if_eq (tgt := 45) hx hb dX9_swap_24 (by decide) (fun _ => ?_) (fun q => absurd (by decide) q)
        refine lv_bipush (v := (-2)) hx hb dX9_swap_45 (by decide) ?_
        refine lv_pc (pc2 := 47) rfl ?_
        exact ty_iret hx hb hr hlk hG hS True.intro dX9_swap_47
      · skip
        refine lv_if_eq (tgt := 45) hx hb dX9_swap_24 (by decide) (fun q => absurd q (by decide)) (fun _ => ?_)
        refine lv_aload_n hx hb dX9_swap_27 rfl (lv_at hl 0 rfl) ?_
        refine va_get (D := D) (ci := 8) (v := .ref r_6) (C := RX9) (T := TX9) (N := 18) hx hb hts in9 hown hK (va_one at_38) 0 rfl rfl 1 (by decide) (hts (.fieldLink RX9 19 "RiverModel" "model" "LRiverModel$Model;") (List.mem_of_getElem? (i := 12) rfl)) (fun _ h9 => h9) rfl dX9_swap_28 ?_
        refine lv_iload_n hx hb dX9_swap_31 rfl (lv_at hl 1 rfl) ?_
        refine lv_aload_n hx hb dX9_swap_32 rfl (lv_at hl 0 rfl) ?_
        refine va_get (D := D) (ci := 8) (v := .ref r_4) (C := RX9) (T := TX9) (N := 18) hx hb hts in9 hown hK (va_one at_38) 0 rfl rfl 0 (by decide) (hts (.fieldLink RX9 10 "RiverModel" "text" "LRiverModel$Text;") (List.mem_of_getElem? (i := 7) rfl)) (fun _ h9 => h9) rfl dX9_swap_33 ?_
        obtain ⟨r_52, r_54, v_56, at_58, h_53, h_55, h_57⟩ := gF_o2 hG h_5
        refine va_get (D := D) (ci := 6) (v := .ref r_54) (C := RX7) (T := TX7) (N := 4) hx hb hts in7 hown hK (va_one at_58) 0 rfl rfl 1 (by decide) (hts (.fieldLink RX9 309 "RiverModel$Text" "row" "[I") (List.mem_of_getElem? (i := 13) rfl)) (fun _ h9 => h9) rfl dX9_swap_36 ?_
        refine lv_pc (pc2 := 39) rfl ?_
        obtain ⟨r_59, r_61, r_63, v_65, v_66, v_67, at_69, h_60, h_62, h_64, h_68⟩ := gF_o3 hG h_7
        refine ty_calli ((W.runV (As := [.int a1, .ref r_54]) (rest := []) ⟨hx, hb, hml, hown, hts⟩ (s_X4_mayReplace l D t cI cL cC gC gE G gW gA r_6 a1 r_54 h_7 h_55) (cwV 2 hts gu_X9_swap_X4_mayReplace_312 rfl rfl rfl (by decide +kernel) ⟨Nat.le_of_ble_eq_true rfl, Nat.le_of_ble_eq_true rfl⟩) (tP_V hG hE at_69 rfl) rfl rfl hl.1 rfl (lv_room (Nat.le_of_ble_eq_true rfl)) dX9_swap_39 ⟨Nat.le_of_ble_eq_true rfl, Nat.le_of_ble_eq_true rfl⟩)) hS (fun k h => by simp [wr0] at h) (fun r_70 H locs hp_71 hG hS o_72 => ?_)
        have at_38 := va_at.keptC at_38 o_72 k_a0 rfl
        have at_58 := va_at.keptC at_58 o_72 h_5 rfl
        have at_69 := va_at.keptC at_69 o_72 h_7 rfl
        rcases hp_71 with rfl | rfl
        · skip
          refine lv_if_ne (tgt := 48) hx hb dX9_swap_42 (by decide) (fun q => absurd rfl q) (fun _ => ?_)
          refine lv_bipush (v := (-2)) hx hb dX9_swap_45 (by decide) ?_
          exact ty_iret hx hb hr hlk hG hS True.intro dX9_swap_47
        · skip
          refine lv_if_ne (tgt := 48) hx hb dX9_swap_42 (by decide) (fun _ => ?_) (fun q => absurd q (by decide))
          refine lv_aload_n hx hb dX9_swap_48 rfl (lv_at hl 0 rfl) ?_
          refine va_get (D := D) (ci := 8) (v := .ref r_10) (C := RX9) (T := TX9) (N := 18) hx hb hts in9 hown hK (va_one at_38) 0 rfl rfl 3 (by decide) (hts (.fieldLink RX9 26 "RiverModel" "other" "LRiverModel$Model;") (List.mem_of_getElem? (i := 18) rfl)) (fun _ h9 => h9) rfl dX9_swap_49 ?_
          refine lv_aload_n hx hb dX9_swap_52 rfl (lv_at hl 0 rfl) ?_
          refine lv_pc (pc2 := 53) rfl ?_
          refine va_get (D := D) (ci := 8) (v := .ref r_6) (C := RX9) (T := TX9) (N := 18) hx hb hts in9 hown hK (va_one at_38) 0 rfl rfl 1 (by decide) (hts (.fieldLink RX9 19 "RiverModel" "model" "LRiverModel$Model;") (List.mem_of_getElem? (i := 12) rfl)) (fun _ h9 => h9) rfl dX9_swap_53 ?_
          obtain ⟨r_73, r_75, r_77, v_79, v_80, v_81, at_83, h_74, h_76, h_78, h_82⟩ := gF_o3 hG h_11
          refine ty_callv ((W.runV (As := [.ref r_6]) (rest := []) ⟨hx, hb, hml, hown, hts⟩ (s_X4_copyFrom l D t cI cL cC gC gE G gW gA r_10 r_6 h_11 h_7) (cwV 1 hts gu_X9_swap_X4_copyFrom_316 rfl rfl rfl (by decide +kernel) ⟨Nat.le_of_ble_eq_true rfl, Nat.le_of_ble_eq_true rfl⟩) (tP_V hG hE at_83 rfl) rfl rfl hl.1 rfl (lv_room (Nat.le_of_ble_eq_true rfl)) dX9_swap_56 ⟨Nat.le_of_ble_eq_true rfl, Nat.le_of_ble_eq_true rfl⟩)) hS (wrL_sub (by decide)) (fun H locs hp_85 hG hS o_86 => ?_)
          have at_38 := va_at.keptC at_38 o_86 k_a0 rfl
          have at_58 := va_at.keptC at_58 o_86 h_5 rfl
          refine lv_aload_n hx hb dX9_swap_59 rfl (lv_at hl 0 rfl) ?_
          refine va_get (D := D) (ci := 8) (v := .ref r_10) (C := RX9) (T := TX9) (N := 18) hx hb hts in9 hown hK (va_one at_38) 0 rfl rfl 3 (by decide) (hts (.fieldLink RX9 26 "RiverModel" "other" "LRiverModel$Model;") (List.mem_of_getElem? (i := 18) rfl)) (fun _ h9 => h9) rfl dX9_swap_60 ?_
          refine lv_iload_n hx hb dX9_swap_63 rfl (lv_at hl 1 rfl) ?_
          refine lv_aload_n hx hb dX9_swap_64 rfl (lv_at hl 0 rfl) ?_
          refine va_get (D := D) (ci := 8) (v := .ref r_4) (C := RX9) (T := TX9) (N := 18) hx hb hts in9 hown hK (va_one at_38) 0 rfl rfl 0 (by decide) (hts (.fieldLink RX9 10 "RiverModel" "text" "LRiverModel$Text;") (List.mem_of_getElem? (i := 7) rfl)) (fun _ h9 => h9) rfl dX9_swap_65 ?_
          refine va_get (D := D) (ci := 6) (v := .ref r_54) (C := RX7) (T := TX7) (N := 4) hx hb hts in7 hown hK (va_one at_58) 0 rfl rfl 1 (by decide) (hts (.fieldLink RX9 309 "RiverModel$Text" "row" "[I") (List.mem_of_getElem? (i := 13) rfl)) (fun _ h9 => h9) rfl dX9_swap_68 ?_
          refine lv_pc (pc2 := 71) rfl ?_
          obtain ⟨r_87, r_89, r_91, v_93, v_94, v_95, at_97, h_88, h_90, h_92, h_96⟩ := gF_o3 hG h_11
          refine ty_callv ((W.runV (As := [.int a1, .ref r_54]) (rest := []) ⟨hx, hb, hml, hown, hts⟩ (s_X4_put l D t cI cL cC gC gE G gW gA r_10 a1 r_54 h_11 h_55) (cwV 2 hts gu_X9_swap_X4_put_319 rfl rfl rfl (by decide +kernel) ⟨Nat.le_of_ble_eq_true rfl, Nat.le_of_ble_eq_true rfl⟩) (tP_V hG hE at_97 rfl) rfl rfl hl.1 rfl (lv_room (Nat.le_of_ble_eq_true rfl)) dX9_swap_71 ⟨Nat.le_of_ble_eq_true rfl, Nat.le_of_ble_eq_true rfl⟩)) hS (wrL_sub (by decide)) (fun H locs hp_99 hG hS o_100 => ?_)
          have at_38 := va_at.keptC at_38 o_100 k_a0 rfl
          have at_58 := va_at.keptC at_58 o_100 h_5 rfl
          refine lv_aload_n hx hb dX9_swap_74 rfl (lv_at hl 0 rfl) ?_
          refine lv_iconst (v := 1) hx hb dX9_swap_75 (by decide) ?_
          refine ty_put (D := D) (ci := 8) (v := .int 1) (ty := .boolean) (C := RX9) (T := TX9) (N := 18) (F2 := (gF cI cL cC gC gE G gW gA)) hx hb hts in9 tyX9 tyX9_ok nmX9 hown hK hG hS at_38 (by rw [k_a0]; rfl) rfl 5 (by decide) (hts (.fieldLink RX9 33 "RiverModel" "isOtherLaid" "Z") (List.mem_of_getElem? (i := 25) rfl)) (fun _ h9 => h9) rfl (by decide +kernel) (by decide) (by decide) (Nat.le_of_ble_eq_true rfl) (by rw [k_a0]; exact ⟨r_4, r_6, r_8, r_10, v_12, 1, r_14, r_16, r_18, r_20, r_22, r_24, r_26, v_28, r_30, r_32, r_34, r_36, rfl, h_5, h_7, h_9, h_11, h_15, h_17, h_19, h_21, h_23, h_25, h_27, (by omega), h_31, h_33, h_35, h_37⟩) tFF dX9_swap_76 (fun H locs hG hS at_101 o_102 => ?_)
          have at_101 : va_at D vwCl (a0, .inr (8, [.ref r_4, .ref r_6, .ref r_8, .ref r_10, .int v_12, .int 1, .ref r_14, .ref r_16, .ref r_18, .ref r_20, .ref r_22, .ref r_24, .ref r_26, .int v_28, .ref r_30, .ref r_32, .ref r_34, .ref r_36])) H := at_101
          have at_58 := va_at.keptK at_58 o_102 k_a0 h_5 rfl
          refine lv_iconst (v := 0) hx hb dX9_swap_79 (by decide) ?_
          exact ty_iret hx hb hr hlk hG hS True.intro dX9_swap_80
    · skip
      refine lv_if_ne (tgt := 45) hx hb dX9_swap_14 (by decide) (fun _ => ?_) (fun q => absurd q (by decide))
      refine lv_bipush (v := (-2)) hx hb dX9_swap_45 (by decide) ?_
      refine lv_pc (pc2 := 47) rfl ?_
      exact ty_iret hx hb hr hlk hG hS True.intro dX9_swap_47

def uX9_swapped : List Cond := .code yX9_swapped cX9_swapped 9 (some .long) :: ([.methodLink RX9 205 yX9_isNoGauge, .static yX9_isNoGauge, .initialized RX9, .constantLong RX9 158 (-1), .methodLink RX9 99 yX9_isOutside, .static yX9_isOutside, .fieldLink RX9 33 "RiverModel" "isOtherLaid" "Z", .constantLong RX9 163 (-2), .methodLink RX9 212 yX9_lacksGauge, .instanceMethod yX9_lacksGauge, .selects RX9 yX9_lacksGauge yX9_lacksGauge, .fieldLink RX9 57 "RiverModel" "trial" "LRiverModel$Course;", .fieldLink RX9 19 "RiverModel" "model" "LRiverModel$Model;", .methodLink RX9 147 yX0_begin, .instanceMethod yX0_begin, .selects RX0 yX0_begin yX0_begin, .initialized RX0, .fieldLink RX9 60 "RiverModel" "second" "LRiverModel$Course;", .fieldLink RX9 26 "RiverModel" "other" "LRiverModel$Model;", .constantLong RX9 297 (-4), .fieldLink RX9 39 "RiverModel" "skyA" "LRiverModel$Sky;", .methodLink RX9 151 yX0_goHourBy, .instanceMethod yX0_goHourBy, .selects RX0 yX0_goHourBy yX0_goHourBy, .fieldLink RX9 74 "RiverModel" "gauges" "LRiverModel$Gauges;", .methodLink RX9 215 yX1_reading, .instanceMethod yX1_reading, .selects RX1 yX1_reading yX1_reading, .initialized RX1, .code yX9_isNoGauge cX9_isNoGauge 1 (some .boolean), .code yX9_isOutside cX9_isOutside 3 (some .boolean), .code yX9_lacksGauge cX9_lacksGauge 2 (some .boolean), .fieldLink RX9 29 "RiverModel" "isBuilt" "Z", .methodLink RX9 346 yX1_isSet, .instanceMethod yX1_isSet, .selects RX1 yX1_isSet yX1_isSet, .code yX1_isSet cX1_isSet 2 (some .boolean), .fieldLink RX1 9 "RiverModel$Gauges" "whats" "[I", .code yX0_begin cX0_begin 3 none, .fieldLink RX0 15 "RiverModel$Course" "moved" "[J", .methodLink RX0 45 yJ7_fill_d0a16, .static yJ7_fill_d0a16, .initialized RJ7, .fieldLink RX0 18 "RiverModel$Course" "openings" "[I", .methodLink RX0 51 yJ7_fill_53178, .static yJ7_fill_53178, .fieldLink RX0 22 "RiverModel$Course" "due" "[J", .fieldLink RX0 25 "RiverModel$Course" "rained" "J", .fieldLink RX0 29 "RiverModel$Course" "air" "J", .fieldLink RX0 32 "RiverModel$Course" "sea" "J", .fieldLink RX0 35 "RiverModel$Course" "hours" "I", .fieldLink RX0 9 "RiverModel$Course" "held" "[J", .methodLink RX0 39 yX4_startOf, .instanceMethod yX4_startOf, .selects RX4 yX4_startOf yX4_startOf, .initialized RX4, .code yJ7_fill_d0a16 cJ7_fill_d0a16 5 none, .code yJ7_fill_53178 cJ7_fill_53178 4 none, .code yX4_startOf cX4_startOf 2 (some .int), .methodLink RX4 66 yX4_hasStore, .instanceMethod yX4_hasStore, .selects RX4 yX4_hasStore yX4_hasStore, .fieldLink RX4 15 "RiverModel$Model" "storeItems" "[I", .methodLink RX4 73 yX4_cell, .instanceMethod yX4_cell, .selects RX4 yX4_cell yX4_cell, .code yX4_hasStore cX4_hasStore 2 (some .boolean), .code yX4_cell cX4_cell 3 (some .int), .fieldLink RX4 9 "RiverModel$Model" "cells" "[I", .code yX0_goHourBy cX0_goHourBy 3 none, .methodLink RX0 60 yX6_rainIn, .instanceMethod yX6_rainIn, .selects RX6 yX6_rainIn yX6_rainIn, .initialized RX6, .methodLink RX0 65 yX6_tempIn, .instanceMethod yX6_tempIn, .selects RX6 yX6_tempIn yX6_tempIn, .methodLink RX0 68 yX0_goHour, .instanceMethod yX0_goHour, .selects RX0 yX0_goHour yX0_goHour, .code yX6_rainIn cX6_rainIn 2 (some .int), .fieldLink RX6 9 "RiverModel$Sky" "rains" "[I", .code yX6_tempIn cX6_tempIn 2 (some .int), .fieldLink RX6 15 "RiverModel$Sky" "temps" "[I", .code yX0_goHour cX0_goHour 7 none, .methodLink RX0 72 yX0_bringDue, .instanceMethod yX0_bringDue, .selects RX0 yX0_bringDue yX0_bringDue, .fieldLink RX0 75 "RiverModel$Model" "many" "I", .methodLink RX0 78 yX0_amountOf, .instanceMethod yX0_amountOf, .selects RX0 yX0_amountOf yX0_amountOf, .methodLink RX0 82 yX0_move, .instanceMethod yX0_move, .selects RX0 yX0_move yX0_move, .code yX0_bringDue cX0_bringDue 3 none, .code yX0_amountOf cX0_amountOf 11 (some .long), .methodLink RX0 86 yX4_cell, .static yX9_isNoStore, .methodLink RX0 110 yX4_gateOf, .instanceMethod yX4_gateOf, .selects RX4 yX4_gateOf yX4_gateOf, .methodLink RX0 113 yX0_openingOf, .instanceMethod yX0_openingOf, .selects RX0 yX0_openingOf yX0_openingOf, .methodLink RX0 107 Lib.MathLoose.min_long.x, .static Lib.MathLoose.min_long.x, .initialized "java/lang/Math", .code Lib.MathLoose.min_long.x Lib.MathLoose.min_long.code 4 (some .long), .methodLink RX0 94 yX0_leakOf, .static yX0_leakOf, .constantLong RX0 117 (100), .methodLink RX0 98 yX4_capacityOf, .instanceMethod yX4_capacityOf, .selects RX4 yX4_capacityOf yX4_capacityOf, .methodLink RX0 101 Lib.MathLoose.max_long.x, .static Lib.MathLoose.max_long.x, .code Lib.MathLoose.max_long.x Lib.MathLoose.max_long.code 4 (some .long), .constantLong RX0 119 (10), .code yX9_isNoStore cX9_isNoStore 1 (some .boolean), .code yX4_gateOf cX4_gateOf 3 (some .int), .fieldLink RX4 28 "RiverModel$Model" "gates" "I", .fieldLink RX4 18 "RiverModel$Model" "gateItems" "[I", .code yX0_openingOf cX0_openingOf 2 (some .long), .static yX9_isNoGate, .code yX9_isNoGate cX9_isNoGate 1 (some .boolean), .code yX0_leakOf cX0_leakOf 8 (some .long), .code yX4_capacityOf cX4_capacityOf 2 (some .int), .code yX0_move cX0_move 8 none, .methodLink RX0 124 yX0_send, .instanceMethod yX0_send, .selects RX0 yX0_send yX0_send, .code yX0_send cX0_send 5 none, .code yX1_reading cX1_reading 4 (some .long), .methodLink RX1 35 yX1_isSet, .fieldLink RX1 15 "RiverModel$Gauges" "places" "[I", .fieldLink RX1 50 "RiverModel$Course" "held" "[J", .static yX9_isNoItem, .fieldLink RX1 41 "RiverModel$Course" "moved" "[J", .code yX9_isNoItem cX9_isNoItem 1 (some .boolean)] ++ wsX90 ++ wsX10 ++ wsX00 ++ wsX40 ++ wsX60)
set_option maxRecDepth 20000 in
theorem gu_X9_swapped_X9_isNoGauge_205 : GoodIn uX9_swapped (va_wsS RX9 205 yX9_isNoGauge uX9_isNoGauge) := goodIn_r _ [1, 2, 3, 30] rfl (by decide +kernel)
set_option maxRecDepth 20000 in
theorem gu_X9_swapped_X9_isOutside_99 : GoodIn uX9_swapped (va_wsS RX9 99 yX9_isOutside uX9_isOutside) := goodIn_r _ [5, 6, 3, 31] rfl (by decide +kernel)
set_option maxRecDepth 20000 in
theorem gu_X9_swapped_X9_lacksGauge_212 : GoodIn uX9_swapped (wsV RX9 212 RX9 yX9_lacksGauge uX9_lacksGauge) := goodIn_r _ [9, 10, 11, 3, 32, 33, 25, 34, 35, 36, 29, 37, 38, 141, 142, 143, 144, 145, 146, 147, 148, 149, 150, 151, 152, 153, 154, 155, 156, 157, 158, 159, 160, 161, 162] rfl (by decide +kernel)
set_option maxRecDepth 20000 in
theorem gu_X9_swapped_X0_begin_147 : GoodIn uX9_swapped (wsV RX9 147 RX0 yX0_begin uX0_begin) := goodIn_r _ [14, 15, 16, 17, 39, 40, 41, 42, 43, 44, 45, 46, 47, 48, 49, 50, 51, 52, 53, 54, 55, 56, 57, 58, 59, 60, 61, 62, 63, 64, 65, 66, 67, 68, 69, 163, 164, 165, 166, 167, 168, 169, 170, 171, 172, 173, 174, 175, 176] rfl (by decide +kernel)
set_option maxRecDepth 20000 in
theorem gu_X9_swapped_X0_goHourBy_151 : GoodIn uX9_swapped (wsV RX9 151 RX0 yX0_goHourBy uX0_goHourBy) := goodIn_r _ [22, 23, 24, 17, 70, 51, 71, 72, 73, 74, 75, 76, 77, 78, 79, 80, 17, 81, 3, 6, 82, 31, 83, 84, 85, 86, 87, 88, 89, 90, 91, 92, 40, 93, 94, 95, 96, 52, 47, 97, 98, 65, 66, 56, 99, 100, 101, 102, 103, 104, 105, 106, 107, 108, 109, 110, 111, 112, 113, 114, 115, 116, 117, 118, 119, 68, 69, 120, 121, 122, 123, 124, 125, 44, 126, 127, 128, 60, 61, 62, 63, 64, 67, 129, 48, 130, 131, 132, 50, 49, 133, 163, 164, 165, 166, 167, 168, 169, 170, 177, 178, 171, 172, 173, 174, 175, 176] rfl (by decide +kernel)
set_option maxRecDepth 20000 in
theorem gu_X9_swapped_X1_reading_215 : GoodIn uX9_swapped (wsV RX9 215 RX1 yX1_reading uX1_reading) := goodIn_r _ [26, 27, 28, 29, 134, 135, 35, 36, 29, 136, 38, 3, 99, 137, 138, 139, 37, 120, 140, 159, 160, 161, 162, 163, 164, 165, 166, 167, 168, 169, 170] rfl (by decide +kernel)
set_option maxHeartbeats 4000000 in
set_option maxRecDepth 100000 in
theorem s_X9_swapped (l : Launch) (D : va_G) (t : Nat → Nat) (cI cL cC : ClassId) (gC : Int32) (gE : Int32) (G : Nat) (gW : Nat → Int32) (gA : Nat → Int32) (a0 : Nat) (a1 : Int32) (a2 : Int32) (a3 : Int32) (hGb : G ≤ 100000000) (k_a0 : t a0 = 1) : tM l yX9_swapped uX9_swapped 5 121 D (gF cI cL cC gC gE G gW gA) (gF cI cL cC gC gE (G + 192) gW gA) t cI cL cC [.ref a0, .int a1, .int a2, .int a3] wrC (pL (fun r => True)) := by
  refine tM.ofW (cc := cX9_swapped) (maxL := 9) (ret := (some .long)) (by decide) rfl (Nat.le_of_ble_eq_true rfl) ?_
  intro p e s m below meth c hx hb hr hml hown hts hlk H locs hG hK hE hS ls hl
  have hl : lv_has ls 9 [(0, .ref a0), (1, .int a1), (2, .int a2), (3, .int a3)] := hl
  have in9 : ∀ w ∈ wsX90, w ∈ uX9_swapped := fun w h => List.mem_cons_of_mem _ (List.mem_append_left _ (List.mem_append_left _ (List.mem_append_left _ (List.mem_append_left _ (List.mem_append_right _ h)))))
  refine lv_iload_n hx hb dX9_swapped_0 rfl (lv_at hl 1 rfl) ?_
  refine ty_calli ((W.runS (As := [.int a1]) (rest := []) ⟨hx, hb, hml, hown, hts⟩ (s_X9_isNoGauge l D t cI cL cC gC gE G gW gA a1 ) (va_cwS 1 hts gu_X9_swapped_X9_isNoGauge_205 rfl rfl rfl (by decide +kernel) ⟨Nat.le_of_ble_eq_true rfl, Nat.le_of_ble_eq_true rfl⟩) (tP_S hG hE) rfl rfl hl.1 rfl (lv_room (Nat.le_of_ble_eq_true rfl)) dX9_swapped_1 ⟨Nat.le_of_ble_eq_true rfl, Nat.le_of_ble_eq_true rfl⟩)) hS (fun k h => by simp [wr0] at h) (fun r_1 H locs hp_2 hG hS o_3 => ?_)
  rcases hp_2 with ⟨rfl, hc_244⟩ | ⟨rfl, hc_245, hc_246⟩
  · skip
    refine lv_if_ne (tgt := 26) hx hb dX9_swapped_4 (by decide) (fun _ => ?_) (fun q => absurd q (by decide))
    refine lv_ldc2 hx hb hown (hts (.constantLong RX9 158 (-1)) (List.mem_of_getElem? (i := 4) rfl)) dX9_swapped_26 ?_
    exact ty_lret hx hb hr hlk (hG.weak (fun _ _ => gF_mono (by omega))) hS True.intro dX9_swapped_29
  · skip
    refine lv_if_ne (tgt := 26) hx hb dX9_swapped_4 (by decide) (fun q => absurd rfl q) (fun _ => ?_)
    refine lv_iload_n hx hb dX9_swapped_7 rfl (lv_at hl 2 rfl) ?_
    refine lv_pc (pc2 := 8) rfl ?_
    refine lv_iconst (v := 1) hx hb dX9_swapped_8 (by decide) ?_
    refine lv_bipush (v := 96) hx hb dX9_swapped_9 (by decide) ?_
    refine ty_calli ((W.runS (As := [.int a2, .int 1, .int 96]) (rest := []) ⟨hx, hb, hml, hown, hts⟩ (s_X9_isOutside l D t cI cL cC gC gE G gW gA a2 1 96 1 96 (by decide) (by decide) ) (va_cwS 3 hts gu_X9_swapped_X9_isOutside_99 rfl rfl rfl (by decide +kernel) ⟨Nat.le_of_ble_eq_true rfl, Nat.le_of_ble_eq_true rfl⟩) (tP_S hG hE) rfl rfl hl.1 rfl (lv_room (Nat.le_of_ble_eq_true rfl)) dX9_swapped_11 ⟨Nat.le_of_ble_eq_true rfl, Nat.le_of_ble_eq_true rfl⟩)) hS (fun k h => by simp [wr0] at h) (fun r_4 H locs hp_5 hG hS o_6 => ?_)
    rcases hp_5 with ⟨rfl, hc_247⟩ | ⟨rfl, hc_248, hc_249⟩
    · skip
      refine lv_if_ne (tgt := 26) hx hb dX9_swapped_14 (by decide) (fun _ => ?_) (fun q => absurd q (by decide))
      refine lv_ldc2 hx hb hown (hts (.constantLong RX9 158 (-1)) (List.mem_of_getElem? (i := 4) rfl)) dX9_swapped_26 ?_
      exact ty_lret hx hb hr hlk (hG.weak (fun _ _ => gF_mono (by omega))) hS True.intro dX9_swapped_29
    · skip
      refine lv_if_ne (tgt := 26) hx hb dX9_swapped_14 (by decide) (fun q => absurd rfl q) (fun _ => ?_)
      refine lv_iload_n hx hb dX9_swapped_17 rfl (lv_at hl 3 rfl) ?_
      refine lv_pc (pc2 := 18) rfl ?_
      refine lv_iconst (v := 0) hx hb dX9_swapped_18 (by decide) ?_
      refine lv_iconst (v := 1) hx hb dX9_swapped_19 (by decide) ?_
      refine ty_calli ((W.runS (As := [.int a3, .int 0, .int 1]) (rest := []) ⟨hx, hb, hml, hown, hts⟩ (s_X9_isOutside l D t cI cL cC gC gE G gW gA a3 0 1 0 1 (by decide) (by decide) ) (va_cwS 3 hts gu_X9_swapped_X9_isOutside_99 rfl rfl rfl (by decide +kernel) ⟨Nat.le_of_ble_eq_true rfl, Nat.le_of_ble_eq_true rfl⟩) (tP_S hG hE) rfl rfl hl.1 rfl (lv_room (Nat.le_of_ble_eq_true rfl)) dX9_swapped_20 ⟨Nat.le_of_ble_eq_true rfl, Nat.le_of_ble_eq_true rfl⟩)) hS (fun k h => by simp [wr0] at h) (fun r_7 H locs hp_8 hG hS o_9 => ?_)
      rcases hp_8 with ⟨rfl, hc_250⟩ | ⟨rfl, hc_251, hc_252⟩
      · skip
        refine lv_if_eq (tgt := 30) hx hb dX9_swapped_23 (by decide) (fun q => absurd q (by decide)) (fun _ => ?_)
        refine lv_ldc2 hx hb hown (hts (.constantLong RX9 158 (-1)) (List.mem_of_getElem? (i := 4) rfl)) dX9_swapped_26 ?_
        exact ty_lret hx hb hr hlk (hG.weak (fun _ _ => gF_mono (by omega))) hS True.intro dX9_swapped_29
      · skip
        refine lv_if_eq (tgt := 30) hx hb dX9_swapped_23 (by decide) (fun _ => ?_) (fun q => absurd (by decide) q)
        refine lv_aload_n hx hb dX9_swapped_30 rfl (lv_at hl 0 rfl) ?_
        refine lv_pc (pc2 := 31) rfl ?_
        obtain ⟨r_10, r_12, r_14, r_16, v_18, v_19, r_20, r_22, r_24, r_26, r_28, r_30, r_32, v_34, r_36, r_38, r_40, r_42, at_44, h_11, h_13, h_15, h_17, h_21, h_23, h_25, h_27, h_29, h_31, h_33, h_35, h_37, h_39, h_41, h_43⟩ := gF_o1 hG k_a0
        refine va_get (D := D) (ci := 8) (v := .int v_19) (C := RX9) (T := TX9) (N := 18) hx hb hts in9 hown hK (va_one at_44) 0 rfl rfl 5 (by decide) (hts (.fieldLink RX9 33 "RiverModel" "isOtherLaid" "Z") (List.mem_of_getElem? (i := 7) rfl)) (fun _ h9 => h9) rfl dX9_swapped_31 ?_
        refine lv_if_eq (tgt := 45) hx hb dX9_swapped_34 (by decide) (fun c_45 => ?_) (fun c_45 => ?_)
        · skip
          have c_45 : v_19.toInt = 0 := q_eq c_45
          refine lv_ldc2 hx hb hown (hts (.constantLong RX9 163 (-2)) (List.mem_of_getElem? (i := 8) rfl)) dX9_swapped_45 ?_
          exact ty_lret hx hb hr hlk (hG.weak (fun _ _ => gF_mono (by omega))) hS True.intro dX9_swapped_48
        · skip
          have c_45 : v_19.toInt ≠ 0 := q_ne c_45
          refine lv_aload_n hx hb dX9_swapped_37 rfl (lv_at hl 0 rfl) ?_
          refine lv_iload_n hx hb dX9_swapped_38 rfl (lv_at hl 1 rfl) ?_
          refine ty_calli ((W.runV (As := [.int a1]) (rest := []) ⟨hx, hb, hml, hown, hts⟩ (s_X9_lacksGauge l D t cI cL cC gC gE G gW gA a0 a1 k_a0) (cwV 1 hts gu_X9_swapped_X9_lacksGauge_212 rfl rfl rfl (by decide +kernel) ⟨Nat.le_of_ble_eq_true rfl, Nat.le_of_ble_eq_true rfl⟩) (tP_V hG hE at_44 rfl) rfl rfl hl.1 rfl (lv_room (Nat.le_of_ble_eq_true rfl)) dX9_swapped_39 ⟨Nat.le_of_ble_eq_true rfl, Nat.le_of_ble_eq_true rfl⟩)) hS (fun k h => by simp [wr0] at h) (fun r_46 H locs hp_47 hG hS o_48 => ?_)
          have at_44 := va_at.keptC at_44 o_48 k_a0 rfl
          rcases hp_47 with rfl | rfl
          · skip
            refine lv_if_eq (tgt := 49) hx hb dX9_swapped_42 (by decide) (fun _ => ?_) (fun q => absurd (by decide) q)
            refine lv_pc (pc2 := 49) rfl ?_
            refine lv_aload_n hx hb dX9_swapped_49 rfl (lv_at hl 0 rfl) ?_
            refine va_get (D := D) (ci := 8) (v := .ref r_28) (C := RX9) (T := TX9) (N := 18) hx hb hts in9 hown hK (va_one at_44) 0 rfl rfl 10 (by decide) (hts (.fieldLink RX9 57 "RiverModel" "trial" "LRiverModel$Course;") (List.mem_of_getElem? (i := 12) rfl)) (fun _ h9 => h9) rfl dX9_swapped_50 ?_
            refine lv_aload_n hx hb dX9_swapped_53 rfl (lv_at hl 0 rfl) ?_
            refine va_get (D := D) (ci := 8) (v := .ref r_12) (C := RX9) (T := TX9) (N := 18) hx hb hts in9 hown hK (va_one at_44) 0 rfl rfl 1 (by decide) (hts (.fieldLink RX9 19 "RiverModel" "model" "LRiverModel$Model;") (List.mem_of_getElem? (i := 13) rfl)) (fun _ h9 => h9) rfl dX9_swapped_54 ?_
            obtain ⟨r_49, r_51, r_53, r_55, v_57, v_58, v_59, v_60, at_62, h_50, h_52, h_54, h_56, h_61⟩ := gF_o5 hG h_29
            refine ty_callv ((W.runV (As := [.ref r_12]) (rest := []) ⟨hx, hb, hml, hown, hts⟩ (s_X0_begin l D t cI cL cC gC gE G gW gA r_28 r_12 h_29 h_13) (cwV 1 hts gu_X9_swapped_X0_begin_147 rfl rfl rfl (by decide +kernel) ⟨Nat.le_of_ble_eq_true rfl, Nat.le_of_ble_eq_true rfl⟩) (tP_V hG hE at_62 rfl) rfl rfl hl.1 rfl (lv_room (Nat.le_of_ble_eq_true rfl)) dX9_swapped_57 ⟨Nat.le_of_ble_eq_true rfl, Nat.le_of_ble_eq_true rfl⟩)) hS (fun _ h => h) (fun H locs hp_64 hG hS o_65 => ?_)
            have at_44 := va_at.keptC at_44 o_65 k_a0 rfl
            refine lv_aload_n hx hb dX9_swapped_60 rfl (lv_at hl 0 rfl) ?_
            refine va_get (D := D) (ci := 8) (v := .ref r_30) (C := RX9) (T := TX9) (N := 18) hx hb hts in9 hown hK (va_one at_44) 0 rfl rfl 11 (by decide) (hts (.fieldLink RX9 60 "RiverModel" "second" "LRiverModel$Course;") (List.mem_of_getElem? (i := 18) rfl)) (fun _ h9 => h9) rfl dX9_swapped_61 ?_
            refine lv_aload_n hx hb dX9_swapped_64 rfl (lv_at hl 0 rfl) ?_
            refine lv_pc (pc2 := 65) rfl ?_
            refine va_get (D := D) (ci := 8) (v := .ref r_16) (C := RX9) (T := TX9) (N := 18) hx hb hts in9 hown hK (va_one at_44) 0 rfl rfl 3 (by decide) (hts (.fieldLink RX9 26 "RiverModel" "other" "LRiverModel$Model;") (List.mem_of_getElem? (i := 19) rfl)) (fun _ h9 => h9) rfl dX9_swapped_65 ?_
            obtain ⟨r_66, r_68, r_70, r_72, v_74, v_75, v_76, v_77, at_79, h_67, h_69, h_71, h_73, h_78⟩ := gF_o5 hG h_31
            refine ty_callv ((W.runV (As := [.ref r_16]) (rest := []) ⟨hx, hb, hml, hown, hts⟩ (s_X0_begin l D t cI cL cC gC gE G gW gA r_30 r_16 h_31 h_17) (cwV 1 hts gu_X9_swapped_X0_begin_147 rfl rfl rfl (by decide +kernel) ⟨Nat.le_of_ble_eq_true rfl, Nat.le_of_ble_eq_true rfl⟩) (tP_V hG hE at_79 rfl) rfl rfl hl.1 rfl (lv_room (Nat.le_of_ble_eq_true rfl)) dX9_swapped_68 ⟨Nat.le_of_ble_eq_true rfl, Nat.le_of_ble_eq_true rfl⟩)) hS (fun _ h => h) (fun H locs hp_81 hG hS o_82 => ?_)
            have at_44 := va_at.keptC at_44 o_82 k_a0 rfl
            refine lv_lconst (v := 0) hx hb dX9_swapped_71 (by decide) ?_
            refine lv_lstore (lv' := [(4, .long 0), (0, .ref a0), (1, .int a1), (2, .int a2), (3, .int a3)]) hx hb dX9_swapped_72 hl (by decide) rfl (fun ls hl => ?_)
            refine lv_iconst (v := 0) hx hb dX9_swapped_74 (by decide) ?_
            refine lv_istore (lv' := [(6, .int 0), (4, .long 0), (0, .ref a0), (1, .int a1), (2, .int a2), (3, .int a3)]) hx hb dX9_swapped_75 hl (by decide) rfl (fun ls hl => ?_)
            refine lv_pc (pc2 := 77) rfl ?_
            refine lp_gen (fun WW hWW => ?_)
            have kx : ∀ (yh : Int32) (ys : Int64) (g : Nat) (H1 : Heap) (locs1 : List Loc) (ls1 : Array Slot), 0 ≤ yh.toInt → yh.toInt ≤ 96 → (g : Int) + 2 * (96 - yh.toInt) ≤ (G : Int) + 192 → tG D (gF cI cL cC gC gE g gW gA) t H1 → tF t wrC s.heap H1 locs1 → lv_has ls1 9 [(6, .int yh), (4, .long ys), (0, .ref a0), (1, .int a1), (2, .int a2), (3, .int a3)] → WW H1 locs1 (F0 m 168 ls1 []) := by
              intro yh ys g H locs ls v0 v1 v2 hG hS hl
              refine (hWW _ _ _).mpr ?_
              refine lv_iload_n hx hb dX9_swapped_168 rfl (lv_at hl 5 rfl) ?_
              refine lv_if_ne (tgt := 178) hx hb dX9_swapped_169 (by decide) (fun c_83 => ?_) (fun c_83 => ?_)
              · skip
                have c_83 : a3.toInt ≠ 0 := q_ne c_83
                refine lv_pc (pc2 := 178) rfl ?_
                refine lv_lload hx hb dX9_swapped_178 (lv_at hl 1 rfl) ?_
                exact ty_lret hx hb hr hlk (hG.weak (fun _ _ => gF_mono (by omega))) hS True.intro dX9_swapped_180
              · skip
                have c_83 : a3.toInt = 0 := q_eq c_83
                refine lv_ldc2 hx hb hown (hts (.constantLong RX9 297 (-4)) (List.mem_of_getElem? (i := 20) rfl)) dX9_swapped_172 ?_
                refine lv_goto (tgt := 180) hx hb dX9_swapped_175 (by decide) ?_
                exact ty_lret hx hb hr hlk (hG.weak (fun _ _ => gF_mono (by omega))) hS True.intro dX9_swapped_180
            have loop : ∀ (k : Nat) (yh : Int32) (ys : Int64) (g : Nat) (H1 : Heap) (locs1 : List Loc) (ls1 : Array Slot), 96 - yh.toInt ≤ (k : Int) → 0 ≤ yh.toInt → yh.toInt ≤ 96 → (g : Int) + 2 * (96 - yh.toInt) ≤ (G : Int) + 192 → tG D (gF cI cL cC gC gE g gW gA) t H1 → tF t wrC s.heap H1 locs1 → lv_has ls1 9 [(6, .int yh), (4, .long ys), (0, .ref a0), (1, .int a1), (2, .int a2), (3, .int a3)] → WW H1 locs1 (F0 m 77 ls1 []) := by
              intro k
              induction k with
              | zero =>
                intro yh ys g H locs ls hk v0 v1 v2 hG hS hl
                refine (hWW _ _ _).mpr ?_
                refine lv_iload hx hb dX9_swapped_77 (lv_at hl 0 rfl) ?_
                refine lv_iload_n hx hb dX9_swapped_79 rfl (lv_at hl 4 rfl) ?_
                refine lv_icmp_ge (tgt := 168) hx hb dX9_swapped_80 (by decide) (fun c_84 => ?_) (fun c_84 => ?_)
                · skip
                  have c_84 : a2.toInt ≤ yh.toInt := q_le c_84
                  exact (hWW _ _ _).mp (kx yh ys g H locs ls (by omega) (by omega) (by omega) hG hS (lv_sub hl [0, 1, 2, 3, 4, 5] rfl))
                · skip
                  have c_84 : yh.toInt < a2.toInt := q_nle c_84
                  refine lv_pc (pc2 := 83) rfl ?_
                  refine lv_aload_n hx hb dX9_swapped_83 rfl (lv_at hl 2 rfl) ?_
                  obtain ⟨r_85, r_87, r_89, r_91, v_93, v_94, r_95, r_97, r_99, r_101, r_103, r_105, r_107, v_109, r_111, r_113, r_115, r_117, at_119, h_86, h_88, h_90, h_92, h_96, h_98, h_100, h_102, h_104, h_106, h_108, h_110, h_112, h_114, h_116, h_118⟩ := gF_o1 hG k_a0
                  refine va_get (D := D) (ci := 8) (v := .ref r_103) (C := RX9) (T := TX9) (N := 18) hx hb hts in9 hown hK (va_one at_119) 0 rfl rfl 10 (by decide) (hts (.fieldLink RX9 57 "RiverModel" "trial" "LRiverModel$Course;") (List.mem_of_getElem? (i := 12) rfl)) (fun _ h9 => h9) rfl dX9_swapped_84 ?_
                  refine lv_aload_n hx hb dX9_swapped_87 rfl (lv_at hl 2 rfl) ?_
                  refine va_get (D := D) (ci := 8) (v := .ref r_87) (C := RX9) (T := TX9) (N := 18) hx hb hts in9 hown hK (va_one at_119) 0 rfl rfl 1 (by decide) (hts (.fieldLink RX9 19 "RiverModel" "model" "LRiverModel$Model;") (List.mem_of_getElem? (i := 13) rfl)) (fun _ h9 => h9) rfl dX9_swapped_88 ?_
                  refine lv_aload_n hx hb dX9_swapped_91 rfl (lv_at hl 2 rfl) ?_
                  refine va_get (D := D) (ci := 8) (v := .ref r_95) (C := RX9) (T := TX9) (N := 18) hx hb hts in9 hown hK (va_one at_119) 0 rfl rfl 6 (by decide) (hts (.fieldLink RX9 39 "RiverModel" "skyA" "LRiverModel$Sky;") (List.mem_of_getElem? (i := 21) rfl)) (fun _ h9 => h9) rfl dX9_swapped_92 ?_
                  obtain ⟨r_120, r_122, r_124, r_126, v_128, v_129, v_130, v_131, at_133, h_121, h_123, h_125, h_127, h_132⟩ := gF_o5 hG h_104
                  refine ty_callv ((W.runV (As := [.ref r_87, .ref r_95]) (rest := []) ⟨hx, hb, hml, hown, hts⟩ (s_X0_goHourBy l D t cI cL cC gC gE g gW gA r_103 r_87 r_95 (by omega) h_104 h_88 h_96) (cwV 2 hts gu_X9_swapped_X0_goHourBy_151 rfl rfl rfl (by decide +kernel) ⟨Nat.le_of_ble_eq_true rfl, Nat.le_of_ble_eq_true rfl⟩) (tP_V hG hE at_133 rfl) rfl rfl hl.1 rfl (lv_room (Nat.le_of_ble_eq_true rfl)) dX9_swapped_95 ⟨Nat.le_of_ble_eq_true rfl, Nat.le_of_ble_eq_true rfl⟩)) hS (fun _ h => h) (fun H locs hp_135 hG hS o_136 => ?_)
                  have at_119 := va_at.keptC at_119 o_136 k_a0 rfl
                  refine lv_aload_n hx hb dX9_swapped_98 rfl (lv_at hl 2 rfl) ?_
                  refine lv_pc (pc2 := 99) rfl ?_
                  refine va_get (D := D) (ci := 8) (v := .ref r_105) (C := RX9) (T := TX9) (N := 18) hx hb hts in9 hown hK (va_one at_119) 0 rfl rfl 11 (by decide) (hts (.fieldLink RX9 60 "RiverModel" "second" "LRiverModel$Course;") (List.mem_of_getElem? (i := 18) rfl)) (fun _ h9 => h9) rfl dX9_swapped_99 ?_
                  refine lv_aload_n hx hb dX9_swapped_102 rfl (lv_at hl 2 rfl) ?_
                  refine va_get (D := D) (ci := 8) (v := .ref r_91) (C := RX9) (T := TX9) (N := 18) hx hb hts in9 hown hK (va_one at_119) 0 rfl rfl 3 (by decide) (hts (.fieldLink RX9 26 "RiverModel" "other" "LRiverModel$Model;") (List.mem_of_getElem? (i := 19) rfl)) (fun _ h9 => h9) rfl dX9_swapped_103 ?_
                  refine lv_aload_n hx hb dX9_swapped_106 rfl (lv_at hl 2 rfl) ?_
                  refine va_get (D := D) (ci := 8) (v := .ref r_95) (C := RX9) (T := TX9) (N := 18) hx hb hts in9 hown hK (va_one at_119) 0 rfl rfl 6 (by decide) (hts (.fieldLink RX9 39 "RiverModel" "skyA" "LRiverModel$Sky;") (List.mem_of_getElem? (i := 21) rfl)) (fun _ h9 => h9) rfl dX9_swapped_107 ?_
                  obtain ⟨r_137, r_139, r_141, r_143, v_145, v_146, v_147, v_148, at_150, h_138, h_140, h_142, h_144, h_149⟩ := gF_o5 hG h_106
                  refine ty_callv ((W.runV (As := [.ref r_91, .ref r_95]) (rest := []) ⟨hx, hb, hml, hown, hts⟩ (s_X0_goHourBy l D t cI cL cC gC gE (g + 1) gW gA r_105 r_91 r_95 (by omega) h_106 h_92 h_96) (cwV 2 hts gu_X9_swapped_X0_goHourBy_151 rfl rfl rfl (by decide +kernel) ⟨Nat.le_of_ble_eq_true rfl, Nat.le_of_ble_eq_true rfl⟩) (tP_V hG hE at_150 rfl) rfl rfl hl.1 rfl (lv_room (Nat.le_of_ble_eq_true rfl)) dX9_swapped_110 ⟨Nat.le_of_ble_eq_true rfl, Nat.le_of_ble_eq_true rfl⟩)) hS (fun _ h => h) (fun H locs hp_152 hG hS o_153 => ?_)
                  have at_119 := va_at.keptC at_119 o_153 k_a0 rfl
                  refine lv_aload_n hx hb dX9_swapped_113 rfl (lv_at hl 2 rfl) ?_
                  refine va_get (D := D) (ci := 8) (v := .ref r_111) (C := RX9) (T := TX9) (N := 18) hx hb hts in9 hown hK (va_one at_119) 0 rfl rfl 14 (by decide) (hts (.fieldLink RX9 74 "RiverModel" "gauges" "LRiverModel$Gauges;") (List.mem_of_getElem? (i := 25) rfl)) (fun _ h9 => h9) rfl dX9_swapped_114 ?_
                  refine lv_pc (pc2 := 117) rfl ?_
                  refine lv_aload_n hx hb dX9_swapped_117 rfl (lv_at hl 2 rfl) ?_
                  refine va_get (D := D) (ci := 8) (v := .ref r_105) (C := RX9) (T := TX9) (N := 18) hx hb hts in9 hown hK (va_one at_119) 0 rfl rfl 11 (by decide) (hts (.fieldLink RX9 60 "RiverModel" "second" "LRiverModel$Course;") (List.mem_of_getElem? (i := 18) rfl)) (fun _ h9 => h9) rfl dX9_swapped_118 ?_
                  refine lv_iload_n hx hb dX9_swapped_121 rfl (lv_at hl 3 rfl) ?_
                  obtain ⟨r_154, r_156, r_158, at_160, h_155, h_157, h_159⟩ := gF_o6 hG h_112
                  refine ty_calll ((W.runV (As := [.ref r_105, .int a1]) (rest := []) ⟨hx, hb, hml, hown, hts⟩ (s_X1_reading l D t cI cL cC gC gE (g + 2) gW gA r_111 r_105 a1 h_112 h_106) (cwV 2 hts gu_X9_swapped_X1_reading_215 rfl rfl rfl (by decide +kernel) ⟨Nat.le_of_ble_eq_true rfl, Nat.le_of_ble_eq_true rfl⟩) (tP_V hG hE at_160 rfl) rfl rfl hl.1 rfl (lv_room (Nat.le_of_ble_eq_true rfl)) dX9_swapped_122 ⟨Nat.le_of_ble_eq_true rfl, Nat.le_of_ble_eq_true rfl⟩)) hS (fun k h => by simp [wr0] at h) (fun z_161 H locs hp_162 hG hS o_163 => ?_)
                  have at_119 := va_at.keptC at_119 o_163 k_a0 rfl
                  have at_160 := va_at.keptC at_160 o_163 h_112 rfl
                  refine lv_aload_n hx hb dX9_swapped_125 rfl (lv_at hl 2 rfl) ?_
                  refine va_get (D := D) (ci := 8) (v := .ref r_111) (C := RX9) (T := TX9) (N := 18) hx hb hts in9 hown hK (va_one at_119) 0 rfl rfl 14 (by decide) (hts (.fieldLink RX9 74 "RiverModel" "gauges" "LRiverModel$Gauges;") (List.mem_of_getElem? (i := 25) rfl)) (fun _ h9 => h9) rfl dX9_swapped_126 ?_
                  refine lv_aload_n hx hb dX9_swapped_129 rfl (lv_at hl 2 rfl) ?_
                  refine va_get (D := D) (ci := 8) (v := .ref r_103) (C := RX9) (T := TX9) (N := 18) hx hb hts in9 hown hK (va_one at_119) 0 rfl rfl 10 (by decide) (hts (.fieldLink RX9 57 "RiverModel" "trial" "LRiverModel$Course;") (List.mem_of_getElem? (i := 12) rfl)) (fun _ h9 => h9) rfl dX9_swapped_130 ?_
                  refine lv_pc (pc2 := 133) rfl ?_
                  refine lv_iload_n hx hb dX9_swapped_133 rfl (lv_at hl 3 rfl) ?_
                  refine ty_calll ((W.runV (As := [.ref r_103, .int a1]) (rest := [.long z_161]) ⟨hx, hb, hml, hown, hts⟩ (s_X1_reading l D t cI cL cC gC gE (g + 2) gW gA r_111 r_103 a1 h_112 h_104) (cwV 2 hts gu_X9_swapped_X1_reading_215 rfl rfl rfl (by decide +kernel) ⟨Nat.le_of_ble_eq_true rfl, Nat.le_of_ble_eq_true rfl⟩) (tP_V hG hE at_160 rfl) rfl rfl hl.1 rfl (lv_room (Nat.le_of_ble_eq_true rfl)) dX9_swapped_134 ⟨Nat.le_of_ble_eq_true rfl, Nat.le_of_ble_eq_true rfl⟩)) hS (fun k h => by simp [wr0] at h) (fun z_164 H locs hp_165 hG hS o_166 => ?_)
                  have at_119 := va_at.keptC at_119 o_166 k_a0 rfl
                  have at_160 := va_at.keptC at_160 o_166 h_112 rfl
                  refine lv_lsub hx hb dX9_swapped_137 ?_
                  refine lv_topl (fun z_167 e_168 => ?_)
                  refine lv_lstore (lv' := [(7, .long z_167), (6, .int yh), (4, .long ys), (0, .ref a0), (1, .int a1), (2, .int a2), (3, .int a3)]) hx hb dX9_swapped_138 hl (by decide) rfl (fun ls hl => ?_)
                  refine lv_iload_n hx hb dX9_swapped_140 rfl (lv_at hl 6 rfl) ?_
                  refine lv_if_ne (tgt := 155) hx hb dX9_swapped_141 (by decide) (fun c_169 => ?_) (fun c_169 => ?_)
                  · skip
                    have c_169 : a3.toInt ≠ 0 := q_ne c_169
                    refine lv_lload hx hb dX9_swapped_155 (lv_at hl 2 rfl) ?_
                    refine lv_lload hx hb dX9_swapped_157 (lv_at hl 0 rfl) ?_
                    refine lv_pc (pc2 := 159) rfl ?_
                    refine lv_ladd hx hb dX9_swapped_159 ?_
                    refine lv_topl (fun z_170 e_171 => ?_)
                    refine lv_lstore (lv' := [(4, .long z_170), (7, .long z_167), (6, .int yh), (0, .ref a0), (1, .int a1), (2, .int a2), (3, .int a3)]) hx hb dX9_swapped_160 hl (by decide) rfl (fun ls hl => ?_)
                    obtain ⟨x_172, e_173⟩ : ∃ y : Int32, y = yh + Int32.ofInt 1 := ⟨_, rfl⟩
                    have i_x_172 : x_172.toInt = yh.toInt + 1 := by rw [e_173, show Int32.ofInt 1 = 1 by decide]; exact (q_add (by rw [show (1 : Int32).toInt = 1 by decide]; omega) (by rw [show (1 : Int32).toInt = 1 by decide]; omega)).trans (by rw [show (1 : Int32).toInt = 1 by decide])
                    refine lv_iinc (v := x_172) (lv' := [(6, .int x_172), (4, .long z_170), (7, .long z_167), (0, .ref a0), (1, .int a1), (2, .int a2), (3, .int a3)]) hx hb dX9_swapped_162 hl (k := 2) rfl e_173.symm (by decide) rfl (fun ls hl => ?_)
                    refine lv_goto (tgt := 77) hx hb dX9_swapped_165 (by decide) ?_
                    exfalso; omega
                  · skip
                    have c_169 : a3.toInt = 0 := q_eq c_169
                    refine lv_lload hx hb dX9_swapped_144 (lv_at hl 0 rfl) ?_
                    refine lv_lconst (v := 0) hx hb dX9_swapped_146 (by decide) ?_
                    refine W.lcmp hx hb dX9_swapped_147 ?_
                    refine lv_if_eq (tgt := 155) hx hb dX9_swapped_148 (by decide) (fun c_174 => ?_) (fun c_174 => ?_)
                    · skip
                      have c_174 : z_167.toInt = 0 := q_cmp_eq c_174
                      refine lv_pc (pc2 := 155) rfl ?_
                      refine lv_lload hx hb dX9_swapped_155 (lv_at hl 2 rfl) ?_
                      refine lv_lload hx hb dX9_swapped_157 (lv_at hl 0 rfl) ?_
                      refine lv_ladd hx hb dX9_swapped_159 ?_
                      refine lv_topl (fun z_175 e_176 => ?_)
                      refine lv_lstore (lv' := [(4, .long z_175), (7, .long z_167), (6, .int yh), (0, .ref a0), (1, .int a1), (2, .int a2), (3, .int a3)]) hx hb dX9_swapped_160 hl (by decide) rfl (fun ls hl => ?_)
                      obtain ⟨x_177, e_178⟩ : ∃ y : Int32, y = yh + Int32.ofInt 1 := ⟨_, rfl⟩
                      have i_x_177 : x_177.toInt = yh.toInt + 1 := by rw [e_178, show Int32.ofInt 1 = 1 by decide]; exact (q_add (by rw [show (1 : Int32).toInt = 1 by decide]; omega) (by rw [show (1 : Int32).toInt = 1 by decide]; omega)).trans (by rw [show (1 : Int32).toInt = 1 by decide])
                      refine lv_iinc (v := x_177) (lv' := [(6, .int x_177), (4, .long z_175), (7, .long z_167), (0, .ref a0), (1, .int a1), (2, .int a2), (3, .int a3)]) hx hb dX9_swapped_162 hl (k := 2) rfl e_178.symm (by decide) rfl (fun ls hl => ?_)
                      refine lv_goto (tgt := 77) hx hb dX9_swapped_165 (by decide) ?_
                      exfalso; omega
                    · skip
                      have c_174 : z_167.toInt ≠ 0 := q_cmp_ne c_174
                      refine lv_iload hx hb dX9_swapped_151 (lv_at hl 1 rfl) ?_
                      refine lv_i2l (v := yh.toInt64) hx hb dX9_swapped_153 rfl ?_
                      refine lv_pc (pc2 := 154) rfl ?_
                      exact ty_lret hx hb hr hlk (hG.weak (fun _ _ => gF_mono (by omega))) hS True.intro dX9_swapped_154
              | succ k ih =>
                intro yh ys g H locs ls hk v0 v1 v2 hG hS hl
                refine (hWW _ _ _).mpr ?_
                refine lv_iload hx hb dX9_swapped_77 (lv_at hl 0 rfl) ?_
                refine lv_iload_n hx hb dX9_swapped_79 rfl (lv_at hl 4 rfl) ?_
                refine lv_icmp_ge (tgt := 168) hx hb dX9_swapped_80 (by decide) (fun c_179 => ?_) (fun c_179 => ?_)
                · skip
                  have c_179 : a2.toInt ≤ yh.toInt := q_le c_179
                  exact (hWW _ _ _).mp (kx yh ys g H locs ls (by omega) (by omega) (by omega) hG hS (lv_sub hl [0, 1, 2, 3, 4, 5] rfl))
                · skip
                  have c_179 : yh.toInt < a2.toInt := q_nle c_179
                  refine lv_aload_n hx hb dX9_swapped_83 rfl (lv_at hl 2 rfl) ?_
                  obtain ⟨r_180, r_182, r_184, r_186, v_188, v_189, r_190, r_192, r_194, r_196, r_198, r_200, r_202, v_204, r_206, r_208, r_210, r_212, at_214, h_181, h_183, h_185, h_187, h_191, h_193, h_195, h_197, h_199, h_201, h_203, h_205, h_207, h_209, h_211, h_213⟩ := gF_o1 hG k_a0
                  refine va_get (D := D) (ci := 8) (v := .ref r_198) (C := RX9) (T := TX9) (N := 18) hx hb hts in9 hown hK (va_one at_214) 0 rfl rfl 10 (by decide) (hts (.fieldLink RX9 57 "RiverModel" "trial" "LRiverModel$Course;") (List.mem_of_getElem? (i := 12) rfl)) (fun _ h9 => h9) rfl dX9_swapped_84 ?_
                  refine lv_aload_n hx hb dX9_swapped_87 rfl (lv_at hl 2 rfl) ?_
                  refine va_get (D := D) (ci := 8) (v := .ref r_182) (C := RX9) (T := TX9) (N := 18) hx hb hts in9 hown hK (va_one at_214) 0 rfl rfl 1 (by decide) (hts (.fieldLink RX9 19 "RiverModel" "model" "LRiverModel$Model;") (List.mem_of_getElem? (i := 13) rfl)) (fun _ h9 => h9) rfl dX9_swapped_88 ?_
                  refine lv_pc (pc2 := 91) rfl ?_
                  refine lv_aload_n hx hb dX9_swapped_91 rfl (lv_at hl 2 rfl) ?_
                  refine va_get (D := D) (ci := 8) (v := .ref r_190) (C := RX9) (T := TX9) (N := 18) hx hb hts in9 hown hK (va_one at_214) 0 rfl rfl 6 (by decide) (hts (.fieldLink RX9 39 "RiverModel" "skyA" "LRiverModel$Sky;") (List.mem_of_getElem? (i := 21) rfl)) (fun _ h9 => h9) rfl dX9_swapped_92 ?_
                  obtain ⟨r_215, r_217, r_219, r_221, v_223, v_224, v_225, v_226, at_228, h_216, h_218, h_220, h_222, h_227⟩ := gF_o5 hG h_199
                  refine ty_callv ((W.runV (As := [.ref r_182, .ref r_190]) (rest := []) ⟨hx, hb, hml, hown, hts⟩ (s_X0_goHourBy l D t cI cL cC gC gE g gW gA r_198 r_182 r_190 (by omega) h_199 h_183 h_191) (cwV 2 hts gu_X9_swapped_X0_goHourBy_151 rfl rfl rfl (by decide +kernel) ⟨Nat.le_of_ble_eq_true rfl, Nat.le_of_ble_eq_true rfl⟩) (tP_V hG hE at_228 rfl) rfl rfl hl.1 rfl (lv_room (Nat.le_of_ble_eq_true rfl)) dX9_swapped_95 ⟨Nat.le_of_ble_eq_true rfl, Nat.le_of_ble_eq_true rfl⟩)) hS (fun _ h => h) (fun H locs hp_230 hG hS o_231 => ?_)
                  have at_214 := va_at.keptC at_214 o_231 k_a0 rfl
                  refine lv_aload_n hx hb dX9_swapped_98 rfl (lv_at hl 2 rfl) ?_
                  refine va_get (D := D) (ci := 8) (v := .ref r_200) (C := RX9) (T := TX9) (N := 18) hx hb hts in9 hown hK (va_one at_214) 0 rfl rfl 11 (by decide) (hts (.fieldLink RX9 60 "RiverModel" "second" "LRiverModel$Course;") (List.mem_of_getElem? (i := 18) rfl)) (fun _ h9 => h9) rfl dX9_swapped_99 ?_
                  refine lv_aload_n hx hb dX9_swapped_102 rfl (lv_at hl 2 rfl) ?_
                  refine va_get (D := D) (ci := 8) (v := .ref r_186) (C := RX9) (T := TX9) (N := 18) hx hb hts in9 hown hK (va_one at_214) 0 rfl rfl 3 (by decide) (hts (.fieldLink RX9 26 "RiverModel" "other" "LRiverModel$Model;") (List.mem_of_getElem? (i := 19) rfl)) (fun _ h9 => h9) rfl dX9_swapped_103 ?_
                  refine lv_aload_n hx hb dX9_swapped_106 rfl (lv_at hl 2 rfl) ?_
                  refine lv_pc (pc2 := 107) rfl ?_
                  refine va_get (D := D) (ci := 8) (v := .ref r_190) (C := RX9) (T := TX9) (N := 18) hx hb hts in9 hown hK (va_one at_214) 0 rfl rfl 6 (by decide) (hts (.fieldLink RX9 39 "RiverModel" "skyA" "LRiverModel$Sky;") (List.mem_of_getElem? (i := 21) rfl)) (fun _ h9 => h9) rfl dX9_swapped_107 ?_
                  obtain ⟨r_232, r_234, r_236, r_238, v_240, v_241, v_242, v_243, at_245, h_233, h_235, h_237, h_239, h_244⟩ := gF_o5 hG h_201
                  refine ty_callv ((W.runV (As := [.ref r_186, .ref r_190]) (rest := []) ⟨hx, hb, hml, hown, hts⟩ (s_X0_goHourBy l D t cI cL cC gC gE (g + 1) gW gA r_200 r_186 r_190 (by omega) h_201 h_187 h_191) (cwV 2 hts gu_X9_swapped_X0_goHourBy_151 rfl rfl rfl (by decide +kernel) ⟨Nat.le_of_ble_eq_true rfl, Nat.le_of_ble_eq_true rfl⟩) (tP_V hG hE at_245 rfl) rfl rfl hl.1 rfl (lv_room (Nat.le_of_ble_eq_true rfl)) dX9_swapped_110 ⟨Nat.le_of_ble_eq_true rfl, Nat.le_of_ble_eq_true rfl⟩)) hS (fun _ h => h) (fun H locs hp_247 hG hS o_248 => ?_)
                  have at_214 := va_at.keptC at_214 o_248 k_a0 rfl
                  refine lv_aload_n hx hb dX9_swapped_113 rfl (lv_at hl 2 rfl) ?_
                  refine va_get (D := D) (ci := 8) (v := .ref r_206) (C := RX9) (T := TX9) (N := 18) hx hb hts in9 hown hK (va_one at_214) 0 rfl rfl 14 (by decide) (hts (.fieldLink RX9 74 "RiverModel" "gauges" "LRiverModel$Gauges;") (List.mem_of_getElem? (i := 25) rfl)) (fun _ h9 => h9) rfl dX9_swapped_114 ?_
                  refine lv_aload_n hx hb dX9_swapped_117 rfl (lv_at hl 2 rfl) ?_
                  refine va_get (D := D) (ci := 8) (v := .ref r_200) (C := RX9) (T := TX9) (N := 18) hx hb hts in9 hown hK (va_one at_214) 0 rfl rfl 11 (by decide) (hts (.fieldLink RX9 60 "RiverModel" "second" "LRiverModel$Course;") (List.mem_of_getElem? (i := 18) rfl)) (fun _ h9 => h9) rfl dX9_swapped_118 ?_
                  refine lv_iload_n hx hb dX9_swapped_121 rfl (lv_at hl 3 rfl) ?_
                  obtain ⟨r_249, r_251, r_253, at_255, h_250, h_252, h_254⟩ := gF_o6 hG h_207
                  refine ty_calll ((W.runV (As := [.ref r_200, .int a1]) (rest := []) ⟨hx, hb, hml, hown, hts⟩ (s_X1_reading l D t cI cL cC gC gE (g + 2) gW gA r_206 r_200 a1 h_207 h_201) (cwV 2 hts gu_X9_swapped_X1_reading_215 rfl rfl rfl (by decide +kernel) ⟨Nat.le_of_ble_eq_true rfl, Nat.le_of_ble_eq_true rfl⟩) (tP_V hG hE at_255 rfl) rfl rfl hl.1 rfl (lv_room (Nat.le_of_ble_eq_true rfl)) dX9_swapped_122 ⟨Nat.le_of_ble_eq_true rfl, Nat.le_of_ble_eq_true rfl⟩)) hS (fun k h => by simp [wr0] at h) (fun z_256 H locs hp_257 hG hS o_258 => ?_)
                  have at_214 := va_at.keptC at_214 o_258 k_a0 rfl
                  have at_255 := va_at.keptC at_255 o_258 h_207 rfl
                  refine lv_pc (pc2 := 125) rfl ?_
                  refine lv_aload_n hx hb dX9_swapped_125 rfl (lv_at hl 2 rfl) ?_
                  refine va_get (D := D) (ci := 8) (v := .ref r_206) (C := RX9) (T := TX9) (N := 18) hx hb hts in9 hown hK (va_one at_214) 0 rfl rfl 14 (by decide) (hts (.fieldLink RX9 74 "RiverModel" "gauges" "LRiverModel$Gauges;") (List.mem_of_getElem? (i := 25) rfl)) (fun _ h9 => h9) rfl dX9_swapped_126 ?_
                  refine lv_aload_n hx hb dX9_swapped_129 rfl (lv_at hl 2 rfl) ?_
                  refine va_get (D := D) (ci := 8) (v := .ref r_198) (C := RX9) (T := TX9) (N := 18) hx hb hts in9 hown hK (va_one at_214) 0 rfl rfl 10 (by decide) (hts (.fieldLink RX9 57 "RiverModel" "trial" "LRiverModel$Course;") (List.mem_of_getElem? (i := 12) rfl)) (fun _ h9 => h9) rfl dX9_swapped_130 ?_
                  refine lv_iload_n hx hb dX9_swapped_133 rfl (lv_at hl 3 rfl) ?_
                  refine ty_calll ((W.runV (As := [.ref r_198, .int a1]) (rest := [.long z_256]) ⟨hx, hb, hml, hown, hts⟩ (s_X1_reading l D t cI cL cC gC gE (g + 2) gW gA r_206 r_198 a1 h_207 h_199) (cwV 2 hts gu_X9_swapped_X1_reading_215 rfl rfl rfl (by decide +kernel) ⟨Nat.le_of_ble_eq_true rfl, Nat.le_of_ble_eq_true rfl⟩) (tP_V hG hE at_255 rfl) rfl rfl hl.1 rfl (lv_room (Nat.le_of_ble_eq_true rfl)) dX9_swapped_134 ⟨Nat.le_of_ble_eq_true rfl, Nat.le_of_ble_eq_true rfl⟩)) hS (fun k h => by simp [wr0] at h) (fun z_259 H locs hp_260 hG hS o_261 => ?_)
                  have at_214 := va_at.keptC at_214 o_261 k_a0 rfl
                  have at_255 := va_at.keptC at_255 o_261 h_207 rfl
                  refine lv_lsub hx hb dX9_swapped_137 ?_
                  refine lv_topl (fun z_262 e_263 => ?_)
                  refine lv_lstore (lv' := [(7, .long z_262), (6, .int yh), (4, .long ys), (0, .ref a0), (1, .int a1), (2, .int a2), (3, .int a3)]) hx hb dX9_swapped_138 hl (by decide) rfl (fun ls hl => ?_)
                  refine lv_pc (pc2 := 140) rfl ?_
                  refine lv_iload_n hx hb dX9_swapped_140 rfl (lv_at hl 6 rfl) ?_
                  refine lv_if_ne (tgt := 155) hx hb dX9_swapped_141 (by decide) (fun c_264 => ?_) (fun c_264 => ?_)
                  · skip
                    have c_264 : a3.toInt ≠ 0 := q_ne c_264
                    refine lv_lload hx hb dX9_swapped_155 (lv_at hl 2 rfl) ?_
                    refine lv_lload hx hb dX9_swapped_157 (lv_at hl 0 rfl) ?_
                    refine lv_ladd hx hb dX9_swapped_159 ?_
                    refine lv_topl (fun z_265 e_266 => ?_)
                    refine lv_lstore (lv' := [(4, .long z_265), (7, .long z_262), (6, .int yh), (0, .ref a0), (1, .int a1), (2, .int a2), (3, .int a3)]) hx hb dX9_swapped_160 hl (by decide) rfl (fun ls hl => ?_)
                    obtain ⟨x_267, e_268⟩ : ∃ y : Int32, y = yh + Int32.ofInt 1 := ⟨_, rfl⟩
                    have i_x_267 : x_267.toInt = yh.toInt + 1 := by rw [e_268, show Int32.ofInt 1 = 1 by decide]; exact (q_add (by rw [show (1 : Int32).toInt = 1 by decide]; omega) (by rw [show (1 : Int32).toInt = 1 by decide]; omega)).trans (by rw [show (1 : Int32).toInt = 1 by decide])
                    refine lv_iinc (v := x_267) (lv' := [(6, .int x_267), (4, .long z_265), (7, .long z_262), (0, .ref a0), (1, .int a1), (2, .int a2), (3, .int a3)]) hx hb dX9_swapped_162 hl (k := 2) rfl e_268.symm (by decide) rfl (fun ls hl => ?_)
                    refine lv_goto (tgt := 77) hx hb dX9_swapped_165 (by decide) ?_
                    exact (hWW _ _ _).mp (ih x_267 z_265 (g + 2) H locs ls (by omega) (by omega) (by omega) (by omega) hG hS (lv_sub hl [0, 1, 3, 4, 5, 6] rfl))
                  · skip
                    have c_264 : a3.toInt = 0 := q_eq c_264
                    refine lv_pc (pc2 := 144) rfl ?_
                    refine lv_lload hx hb dX9_swapped_144 (lv_at hl 0 rfl) ?_
                    refine lv_lconst (v := 0) hx hb dX9_swapped_146 (by decide) ?_
                    refine W.lcmp hx hb dX9_swapped_147 ?_
                    refine lv_if_eq (tgt := 155) hx hb dX9_swapped_148 (by decide) (fun c_269 => ?_) (fun c_269 => ?_)
                    · skip
                      have c_269 : z_262.toInt = 0 := q_cmp_eq c_269
                      refine lv_lload hx hb dX9_swapped_155 (lv_at hl 2 rfl) ?_
                      refine lv_lload hx hb dX9_swapped_157 (lv_at hl 0 rfl) ?_
                      refine lv_ladd hx hb dX9_swapped_159 ?_
                      refine lv_topl (fun z_270 e_271 => ?_)
                      refine lv_lstore (lv' := [(4, .long z_270), (7, .long z_262), (6, .int yh), (0, .ref a0), (1, .int a1), (2, .int a2), (3, .int a3)]) hx hb dX9_swapped_160 hl (by decide) rfl (fun ls hl => ?_)
                      refine lv_pc (pc2 := 162) rfl ?_
                      obtain ⟨x_272, e_273⟩ : ∃ y : Int32, y = yh + Int32.ofInt 1 := ⟨_, rfl⟩
                      have i_x_272 : x_272.toInt = yh.toInt + 1 := by rw [e_273, show Int32.ofInt 1 = 1 by decide]; exact (q_add (by rw [show (1 : Int32).toInt = 1 by decide]; omega) (by rw [show (1 : Int32).toInt = 1 by decide]; omega)).trans (by rw [show (1 : Int32).toInt = 1 by decide])
                      refine lv_iinc (v := x_272) (lv' := [(6, .int x_272), (4, .long z_270), (7, .long z_262), (0, .ref a0), (1, .int a1), (2, .int a2), (3, .int a3)]) hx hb dX9_swapped_162 hl (k := 2) rfl e_273.symm (by decide) rfl (fun ls hl => ?_)
                      refine lv_goto (tgt := 77) hx hb dX9_swapped_165 (by decide) ?_
                      exact (hWW _ _ _).mp (ih x_272 z_270 (g + 2) H locs ls (by omega) (by omega) (by omega) (by omega) hG hS (lv_sub hl [0, 1, 3, 4, 5, 6] rfl))
                    · skip
                      have c_269 : z_262.toInt ≠ 0 := q_cmp_ne c_269
                      refine lv_iload hx hb dX9_swapped_151 (lv_at hl 1 rfl) ?_
                      refine lv_i2l (v := yh.toInt64) hx hb dX9_swapped_153 rfl ?_
                      exact ty_lret hx hb hr hlk (hG.weak (fun _ _ => gF_mono (by omega))) hS True.intro dX9_swapped_154
            have hz_yh : (0 : Int32).toInt = 0 := by decide
            exact loop (96 - 0 : Int).toNat 0 0 G H locs ls (by omega) (by omega) (by omega) (by omega) hG hS (lv_sub hl [0, 1, 2, 3, 4, 5] rfl)
          · skip
            refine lv_if_eq (tgt := 49) hx hb dX9_swapped_42 (by decide) (fun q => absurd q (by decide)) (fun _ => ?_)
            refine lv_ldc2 hx hb hown (hts (.constantLong RX9 163 (-2)) (List.mem_of_getElem? (i := 8) rfl)) dX9_swapped_45 ?_
            exact ty_lret hx hb hr hlk (hG.weak (fun _ _ => gF_mono (by omega))) hS True.intro dX9_swapped_48

def uX9_laySwap : List Cond := .code yX9_laySwap cX9_laySwap 1 (some .int) :: ([.fieldLink RX9 33 "RiverModel" "isOtherLaid" "Z", .fieldLink RX9 23 "RiverModel" "draft" "LRiverModel$Model;", .fieldLink RX9 26 "RiverModel" "other" "LRiverModel$Model;", .methodLink RX9 316 yX4_copyFrom, .instanceMethod yX4_copyFrom, .selects RX4 yX4_copyFrom yX4_copyFrom, .initialized RX4, .methodLink RX9 121 yX9_draftBecomesModel, .instanceMethod yX9_draftBecomesModel, .selects RX9 yX9_draftBecomesModel yX9_draftBecomesModel, .initialized RX9, .code yX4_copyFrom cX4_copyFrom 2 none, .fieldLink RX4 9 "RiverModel$Model" "cells" "[I", .methodLink RX4 37 arraycopyName, .native arraycopyName, .static arraycopyName, .initialized "java/lang/System", .fieldLink RX4 15 "RiverModel$Model" "storeItems" "[I", .fieldLink RX4 18 "RiverModel$Model" "gateItems" "[I", .fieldLink RX4 21 "RiverModel$Model" "many" "I", .fieldLink RX4 25 "RiverModel$Model" "stores" "I", .fieldLink RX4 28 "RiverModel$Model" "gates" "I", .code yX9_draftBecomesModel cX9_draftBecomesModel 3 none, .fieldLink RX9 19 "RiverModel" "model" "LRiverModel$Model;", .fieldLink RX9 29 "RiverModel" "isBuilt" "Z", .fieldLink RX9 67 "RiverModel" "keptMany" "I", .fieldLink RX9 53 "RiverModel" "now" "LRiverModel$Course;", .methodLink RX9 147 yX0_begin, .instanceMethod yX0_begin, .selects RX0 yX0_begin yX0_begin, .initialized RX0, .fieldLink RX9 46 "RiverModel" "startsB" "[I", .methodLink RX9 347 yX4_startOf, .instanceMethod yX4_startOf, .selects RX4 yX4_startOf yX4_startOf, .code yX0_begin cX0_begin 3 none, .fieldLink RX0 15 "RiverModel$Course" "moved" "[J", .methodLink RX0 45 yJ7_fill_d0a16, .static yJ7_fill_d0a16, .initialized RJ7, .fieldLink RX0 18 "RiverModel$Course" "openings" "[I", .methodLink RX0 51 yJ7_fill_53178, .static yJ7_fill_53178, .fieldLink RX0 22 "RiverModel$Course" "due" "[J", .fieldLink RX0 25 "RiverModel$Course" "rained" "J", .fieldLink RX0 29 "RiverModel$Course" "air" "J", .fieldLink RX0 32 "RiverModel$Course" "sea" "J", .fieldLink RX0 35 "RiverModel$Course" "hours" "I", .fieldLink RX0 9 "RiverModel$Course" "held" "[J", .methodLink RX0 39 yX4_startOf, .code yJ7_fill_d0a16 cJ7_fill_d0a16 5 none, .code yJ7_fill_53178 cJ7_fill_53178 4 none, .code yX4_startOf cX4_startOf 2 (some .int), .methodLink RX4 66 yX4_hasStore, .instanceMethod yX4_hasStore, .selects RX4 yX4_hasStore yX4_hasStore, .methodLink RX4 73 yX4_cell, .instanceMethod yX4_cell, .selects RX4 yX4_cell yX4_cell, .code yX4_hasStore cX4_hasStore 2 (some .boolean), .code yX4_cell cX4_cell 3 (some .int)] ++ wsX90 ++ wsX40 ++ wsX00)
set_option maxRecDepth 20000 in
theorem gu_X9_laySwap_X4_copyFrom_316 : GoodIn uX9_laySwap (wsV RX9 316 RX4 yX4_copyFrom uX4_copyFrom) := goodIn_r _ [4, 5, 6, 7, 12, 13, 14, 15, 16, 17, 18, 19, 20, 21, 22, 80, 81, 82, 83, 84, 85] rfl (by decide +kernel)
set_option maxRecDepth 20000 in
theorem gu_X9_laySwap_X9_draftBecomesModel_121 : GoodIn uX9_laySwap (wsV RX9 121 RX9 yX9_draftBecomesModel uX9_draftBecomesModel) := goodIn_r _ [8, 9, 10, 11, 23, 24, 2, 25, 1, 26, 27, 28, 29, 30, 31, 32, 33, 34, 35, 7, 36, 37, 38, 39, 40, 41, 42, 43, 44, 45, 46, 47, 48, 49, 50, 51, 52, 53, 54, 55, 56, 18, 57, 58, 59, 60, 61, 13, 62, 63, 64, 65, 66, 67, 68, 69, 70, 71, 72, 73, 74, 75, 76, 77, 78, 79, 86, 87, 88, 89, 90, 91, 92, 93, 80, 81, 82, 83, 84, 85] rfl (by decide +kernel)
set_option maxHeartbeats 4000000 in
set_option maxRecDepth 100000 in
theorem s_X9_laySwap (l : Launch) (D : va_G) (t : Nat → Nat) (cI cL cC : ClassId) (gC : Int32) (gE : Int32) (G : Nat) (gW : Nat → Int32) (gA : Nat → Int32) (a0 : Nat) (k_a0 : t a0 = 1) : tM l yX9_laySwap uX9_laySwap 4 87 D (gF cI cL cC gC gE G gW gA) (gF cI cL cC gC gE G gW gA) t cI cL cC [.ref a0] wrAll (pI (fun r => True)) := by
  refine tM.ofW (cc := cX9_laySwap) (maxL := 1) (ret := (some .int)) (by decide) rfl (Nat.le_of_ble_eq_true rfl) ?_
  intro p e s m below meth c hx hb hr hml hown hts hlk H locs hG hK hE hS ls hl
  have hl : lv_has ls 1 [(0, .ref a0)] := hl
  have in9 : ∀ w ∈ wsX90, w ∈ uX9_laySwap := fun w h => List.mem_cons_of_mem _ (List.mem_append_left _ (List.mem_append_left _ (List.mem_append_right _ h)))
  refine lv_aload_n hx hb dX9_laySwap_0 rfl (lv_at hl 0 rfl) ?_
  obtain ⟨r_1, r_3, r_5, r_7, v_9, v_10, r_11, r_13, r_15, r_17, r_19, r_21, r_23, v_25, r_27, r_29, r_31, r_33, at_35, h_2, h_4, h_6, h_8, h_12, h_14, h_16, h_18, h_20, h_22, h_24, h_26, h_28, h_30, h_32, h_34⟩ := gF_o1 hG k_a0
  refine va_get (D := D) (ci := 8) (v := .int v_10) (C := RX9) (T := TX9) (N := 18) hx hb hts in9 hown hK (va_one at_35) 0 rfl rfl 5 (by decide) (hts (.fieldLink RX9 33 "RiverModel" "isOtherLaid" "Z") (List.mem_of_getElem? (i := 1) rfl)) (fun _ h9 => h9) rfl dX9_laySwap_1 ?_
  refine lv_if_ne (tgt := 10) hx hb dX9_laySwap_4 (by decide) (fun c_36 => ?_) (fun c_36 => ?_)
  · skip
    have c_36 : v_10.toInt ≠ 0 := q_ne c_36
    refine lv_aload_n hx hb dX9_laySwap_10 rfl (lv_at hl 0 rfl) ?_
    refine va_get (D := D) (ci := 8) (v := .ref r_5) (C := RX9) (T := TX9) (N := 18) hx hb hts in9 hown hK (va_one at_35) 0 rfl rfl 2 (by decide) (hts (.fieldLink RX9 23 "RiverModel" "draft" "LRiverModel$Model;") (List.mem_of_getElem? (i := 2) rfl)) (fun _ h9 => h9) rfl dX9_laySwap_11 ?_
    refine lv_aload_n hx hb dX9_laySwap_14 rfl (lv_at hl 0 rfl) ?_
    refine va_get (D := D) (ci := 8) (v := .ref r_7) (C := RX9) (T := TX9) (N := 18) hx hb hts in9 hown hK (va_one at_35) 0 rfl rfl 3 (by decide) (hts (.fieldLink RX9 26 "RiverModel" "other" "LRiverModel$Model;") (List.mem_of_getElem? (i := 3) rfl)) (fun _ h9 => h9) rfl dX9_laySwap_15 ?_
    refine lv_pc (pc2 := 18) rfl ?_
    obtain ⟨r_37, r_39, r_41, v_43, v_44, v_45, at_47, h_38, h_40, h_42, h_46⟩ := gF_o3 hG h_6
    refine ty_callv ((W.runV (As := [.ref r_7]) (rest := []) ⟨hx, hb, hml, hown, hts⟩ (s_X4_copyFrom l D t cI cL cC gC gE G gW gA r_5 r_7 h_6 h_8) (cwV 1 hts gu_X9_laySwap_X4_copyFrom_316 rfl rfl rfl (by decide +kernel) ⟨Nat.le_of_ble_eq_true rfl, Nat.le_of_ble_eq_true rfl⟩) (tP_V hG hE at_47 rfl) rfl rfl hl.1 rfl (lv_room (Nat.le_of_ble_eq_true rfl)) dX9_laySwap_18 ⟨Nat.le_of_ble_eq_true rfl, Nat.le_of_ble_eq_true rfl⟩)) hS (wrL_sub (by decide)) (fun H locs hp_49 hG hS o_50 => ?_)
    have at_35 := va_at.keptC at_35 o_50 k_a0 rfl
    refine lv_aload_n hx hb dX9_laySwap_21 rfl (lv_at hl 0 rfl) ?_
    refine ty_callv ((W.runV (As := []) (rest := []) ⟨hx, hb, hml, hown, hts⟩ (s_X9_draftBecomesModel l D t cI cL cC gC gE G gW gA a0 k_a0) (cwV 0 hts gu_X9_laySwap_X9_draftBecomesModel_121 rfl rfl rfl (by decide +kernel) ⟨Nat.le_of_ble_eq_true rfl, Nat.le_of_ble_eq_true rfl⟩) (tP_V hG hE at_35 rfl) rfl rfl hl.1 rfl (lv_room (Nat.le_of_ble_eq_true rfl)) dX9_laySwap_22 ⟨Nat.le_of_ble_eq_true rfl, Nat.le_of_ble_eq_true rfl⟩)) hS (fun _ h => h) (fun H locs hp_52 hG hS o_53 => ?_)
    refine lv_iconst (v := 0) hx hb dX9_laySwap_25 (by decide) ?_
    exact ty_iret hx hb hr hlk hG hS True.intro dX9_laySwap_26
  · skip
    have c_36 : v_10.toInt = 0 := q_eq c_36
    refine lv_bipush (v := (-2)) hx hb dX9_laySwap_7 (by decide) ?_
    exact ty_iret hx hb hr hlk hG hS True.intro dX9_laySwap_9

def uX9_startB : List Cond := .code yX9_startB cX9_startB 4 (some .int) :: ([.methodLink RX9 155 yX9_isNoStore, .static yX9_isNoStore, .initialized RX9, .constant RX9 231 (1000000), .methodLink RX9 99 yX9_isOutside, .static yX9_isOutside, .methodLink RX9 160 yX9_lacksStore, .instanceMethod yX9_lacksStore, .selects RX9 yX9_lacksStore yX9_lacksStore, .fieldLink RX9 46 "RiverModel" "startsB" "[I", .code yX9_isNoStore cX9_isNoStore 1 (some .boolean), .code yX9_isOutside cX9_isOutside 3 (some .boolean), .code yX9_lacksStore cX9_lacksStore 2 (some .boolean), .fieldLink RX9 29 "RiverModel" "isBuilt" "Z", .fieldLink RX9 19 "RiverModel" "model" "LRiverModel$Model;", .methodLink RX9 343 yX4_hasStore, .instanceMethod yX4_hasStore, .selects RX4 yX4_hasStore yX4_hasStore, .initialized RX4, .code yX4_hasStore cX4_hasStore 2 (some .boolean), .fieldLink RX4 15 "RiverModel$Model" "storeItems" "[I"] ++ wsX90 ++ wsX40)
set_option maxRecDepth 20000 in
theorem gu_X9_startB_X9_isNoStore_155 : GoodIn uX9_startB (va_wsS RX9 155 yX9_isNoStore uX9_isNoStore) := goodIn_r _ [1, 2, 3, 11] rfl (by decide +kernel)
set_option maxRecDepth 20000 in
theorem gu_X9_startB_X9_isOutside_99 : GoodIn uX9_startB (va_wsS RX9 99 yX9_isOutside uX9_isOutside) := goodIn_r _ [5, 6, 3, 12] rfl (by decide +kernel)
set_option maxRecDepth 20000 in
theorem gu_X9_startB_X9_lacksStore_160 : GoodIn uX9_startB (wsV RX9 160 RX9 yX9_lacksStore uX9_lacksStore) := goodIn_r _ [7, 8, 9, 3, 13, 14, 15, 16, 17, 18, 19, 20, 21, 22, 23, 24, 25, 26, 27, 28, 29, 30, 31, 32, 33, 34, 35, 36, 37, 38, 39, 40, 41, 42, 43, 44, 45] rfl (by decide +kernel)
set_option maxHeartbeats 4000000 in
set_option maxRecDepth 100000 in
theorem s_X9_startB (l : Launch) (D : va_G) (t : Nat → Nat) (cI cL cC : ClassId) (gC : Int32) (gE : Int32) (G : Nat) (gW : Nat → Int32) (gA : Nat → Int32) (a0 : Nat) (a1 : Int32) (a2 : Int32) (k_a0 : t a0 = 1) : tM l yX9_startB uX9_startB 2 42 D (gF cI cL cC gC gE G gW gA) (gF cI cL cC gC gE G gW gA) t cI cL cC [.ref a0, .int a1, .int a2] wrAll (pI (fun r => True)) := by
  refine tM.ofW (cc := cX9_startB) (maxL := 4) (ret := (some .int)) (by decide) rfl (Nat.le_of_ble_eq_true rfl) ?_
  intro p e s m below meth c hx hb hr hml hown hts hlk H locs hG hK hE hS ls hl
  have hl : lv_has ls 4 [(0, .ref a0), (1, .int a1), (2, .int a2)] := hl
  have in9 : ∀ w ∈ wsX90, w ∈ uX9_startB := fun w h => List.mem_cons_of_mem _ (List.mem_append_left _ (List.mem_append_right _ h))
  refine lv_iload_n hx hb dX9_startB_0 rfl (lv_at hl 1 rfl) ?_
  refine ty_calli ((W.runS (As := [.int a1]) (rest := []) ⟨hx, hb, hml, hown, hts⟩ (s_X9_isNoStore l D t cI cL cC gC gE G gW gA a1 ) (va_cwS 1 hts gu_X9_startB_X9_isNoStore_155 rfl rfl rfl (by decide +kernel) ⟨Nat.le_of_ble_eq_true rfl, Nat.le_of_ble_eq_true rfl⟩) (tP_S hG hE) rfl rfl hl.1 rfl (lv_room (Nat.le_of_ble_eq_true rfl)) dX9_startB_1 ⟨Nat.le_of_ble_eq_true rfl, Nat.le_of_ble_eq_true rfl⟩)) hS (fun k h => by simp [wr0] at h) (fun r_1 H locs hp_2 hG hS o_3 => ?_)
  rcases hp_2 with ⟨rfl, hc_253⟩ | ⟨rfl, hc_254, hc_255⟩
  · skip
    refine lv_if_ne (tgt := 17) hx hb dX9_startB_4 (by decide) (fun _ => ?_) (fun q => absurd q (by decide))
    refine lv_iconst (v := (-1)) hx hb dX9_startB_17 (by decide) ?_
    exact ty_iret hx hb hr hlk hG hS True.intro dX9_startB_18
  · skip
    refine lv_if_ne (tgt := 17) hx hb dX9_startB_4 (by decide) (fun q => absurd rfl q) (fun _ => ?_)
    refine lv_iload_n hx hb dX9_startB_7 rfl (lv_at hl 2 rfl) ?_
    refine lv_pc (pc2 := 8) rfl ?_
    refine lv_iconst (v := 0) hx hb dX9_startB_8 (by decide) ?_
    refine lv_ldc hx hb hown (hts (.constant RX9 231 (1000000)) (List.mem_of_getElem? (i := 4) rfl)) dX9_startB_9 ?_
    refine ty_calli ((W.runS (As := [.int a2, .int 0, .int 1000000]) (rest := []) ⟨hx, hb, hml, hown, hts⟩ (s_X9_isOutside l D t cI cL cC gC gE G gW gA a2 0 1000000 0 1000000 (by decide) (by decide) ) (va_cwS 3 hts gu_X9_startB_X9_isOutside_99 rfl rfl rfl (by decide +kernel) ⟨Nat.le_of_ble_eq_true rfl, Nat.le_of_ble_eq_true rfl⟩) (tP_S hG hE) rfl rfl hl.1 rfl (lv_room (Nat.le_of_ble_eq_true rfl)) dX9_startB_11 ⟨Nat.le_of_ble_eq_true rfl, Nat.le_of_ble_eq_true rfl⟩)) hS (fun k h => by simp [wr0] at h) (fun r_4 H locs hp_5 hG hS o_6 => ?_)
    rcases hp_5 with ⟨rfl, hc_256⟩ | ⟨rfl, hc_257, hc_258⟩
    · skip
      refine lv_if_eq (tgt := 19) hx hb dX9_startB_14 (by decide) (fun q => absurd q (by decide)) (fun _ => ?_)
      refine lv_iconst (v := (-1)) hx hb dX9_startB_17 (by decide) ?_
      exact ty_iret hx hb hr hlk hG hS True.intro dX9_startB_18
    · skip
      refine lv_if_eq (tgt := 19) hx hb dX9_startB_14 (by decide) (fun _ => ?_) (fun q => absurd (by decide) q)
      refine lv_aload_n hx hb dX9_startB_19 rfl (lv_at hl 0 rfl) ?_
      refine lv_pc (pc2 := 20) rfl ?_
      refine lv_iload_n hx hb dX9_startB_20 rfl (lv_at hl 1 rfl) ?_
      obtain ⟨r_7, r_9, r_11, r_13, v_15, v_16, r_17, r_19, r_21, r_23, r_25, r_27, r_29, v_31, r_33, r_35, r_37, r_39, at_41, h_8, h_10, h_12, h_14, h_18, h_20, h_22, h_24, h_26, h_28, h_30, h_32, h_34, h_36, h_38, h_40⟩ := gF_o1 hG k_a0
      refine ty_calli ((W.runV (As := [.int a1]) (rest := []) ⟨hx, hb, hml, hown, hts⟩ (s_X9_lacksStore l D t cI cL cC gC gE G gW gA a0 a1 k_a0) (cwV 1 hts gu_X9_startB_X9_lacksStore_160 rfl rfl rfl (by decide +kernel) ⟨Nat.le_of_ble_eq_true rfl, Nat.le_of_ble_eq_true rfl⟩) (tP_V hG hE at_41 rfl) rfl rfl hl.1 rfl (lv_room (Nat.le_of_ble_eq_true rfl)) dX9_startB_21 ⟨Nat.le_of_ble_eq_true rfl, Nat.le_of_ble_eq_true rfl⟩)) hS (fun k h => by simp [wr0] at h) (fun r_42 H locs hp_43 hG hS o_44 => ?_)
      have at_41 := va_at.keptC at_41 o_44 k_a0 rfl
      rcases hp_43 with rfl | rfl
      · skip
        refine lv_if_eq (tgt := 30) hx hb dX9_startB_24 (by decide) (fun _ => ?_) (fun q => absurd (by decide) q)
        refine lv_aload_n hx hb dX9_startB_30 rfl (lv_at hl 0 rfl) ?_
        refine va_get (D := D) (ci := 8) (v := .ref r_21) (C := RX9) (T := TX9) (N := 18) hx hb hts in9 hown hK (va_one at_41) 0 rfl rfl 8 (by decide) (hts (.fieldLink RX9 46 "RiverModel" "startsB" "[I") (List.mem_of_getElem? (i := 10) rfl)) (fun _ h9 => h9) rfl dX9_startB_31 ?_
        refine lv_iload_n hx hb dX9_startB_34 rfl (lv_at hl 1 rfl) ?_
        obtain ⟨f_45, at_46⟩ := gF_o35 hG h_22
        have b_47 : vp_in a1 16 := (q_in (by omega) (by omega))
        refine va_iald hx hb hK (va_one at_46) 0 0 rfl rfl b_47 dX9_startB_35 ?_
        refine lv_topi (fun x_48 e_49 => ?_)
        refine lv_istore_n (lv' := [(3, .int x_48), (0, .ref a0), (1, .int a1), (2, .int a2)]) hx hb dX9_startB_36 rfl hl (by decide) rfl (fun ls hl => ?_)
        refine lv_pc (pc2 := 37) rfl ?_
        refine lv_aload_n hx hb dX9_startB_37 rfl (lv_at hl 1 rfl) ?_
        refine va_get (D := D) (ci := 8) (v := .ref r_21) (C := RX9) (T := TX9) (N := 18) hx hb hts in9 hown hK (va_one at_41) 0 rfl rfl 8 (by decide) (hts (.fieldLink RX9 46 "RiverModel" "startsB" "[I") (List.mem_of_getElem? (i := 10) rfl)) (fun _ h9 => h9) rfl dX9_startB_38 ?_
        refine lv_iload_n hx hb dX9_startB_41 rfl (lv_at hl 2 rfl) ?_
        refine lv_iload_n hx hb dX9_startB_42 rfl (lv_at hl 3 rfl) ?_
        have b_50 : vp_in a1 16 := (q_in (by omega) (by omega))
        refine ty_iast (F2 := (gF cI cL cC gC gE G gW gA)) hx hb hK hG hS 0 at_46 (by rw [h_22]; rfl) rfl b_50 (by rw [h_22]; exact ⟨_, rfl⟩) tFF dX9_startB_43 (fun H locs hG hS at_51 o_52 => ?_)
        have at_41 := va_at.keptK at_41 o_52 h_22 k_a0 rfl
        refine lv_iload_n hx hb dX9_startB_44 rfl (lv_at hl 0 rfl) ?_
        exact ty_iret hx hb hr hlk hG hS True.intro dX9_startB_45
      · skip
        refine lv_if_eq (tgt := 30) hx hb dX9_startB_24 (by decide) (fun q => absurd q (by decide)) (fun _ => ?_)
        refine lv_pc (pc2 := 27) rfl ?_
        refine lv_bipush (v := (-2)) hx hb dX9_startB_27 (by decide) ?_
        exact ty_iret hx hb hr hlk hG hS True.intro dX9_startB_29

def uX9_blame : List Cond := .code yX9_blame cX9_blame 4 (some .long) :: ([.methodLink RX9 205 yX9_isNoGauge, .static yX9_isNoGauge, .initialized RX9, .constantLong RX9 323 (-1000000000000000000), .methodLink RX9 99 yX9_isOutside, .static yX9_isOutside, .methodLink RX9 212 yX9_lacksGauge, .instanceMethod yX9_lacksGauge, .selects RX9 yX9_lacksGauge yX9_lacksGauge, .methodLink RX9 327 yX9_changedReading, .instanceMethod yX9_changedReading, .selects RX9 yX9_changedReading yX9_changedReading, .constantLong RX9 325 (-1000000000000000001), .code yX9_isNoGauge cX9_isNoGauge 1 (some .boolean), .code yX9_isOutside cX9_isOutside 3 (some .boolean), .code yX9_lacksGauge cX9_lacksGauge 2 (some .boolean), .fieldLink RX9 29 "RiverModel" "isBuilt" "Z", .fieldLink RX9 74 "RiverModel" "gauges" "LRiverModel$Gauges;", .methodLink RX9 346 yX1_isSet, .instanceMethod yX1_isSet, .selects RX1 yX1_isSet yX1_isSet, .initialized RX1, .code yX1_isSet cX1_isSet 2 (some .boolean), .fieldLink RX1 9 "RiverModel$Gauges" "whats" "[I", .code yX9_changedReading cX9_changedReading 7 (some .long), .fieldLink RX9 19 "RiverModel" "model" "LRiverModel$Model;", .fieldLink RX9 39 "RiverModel" "skyA" "LRiverModel$Sky;", .fieldLink RX9 57 "RiverModel" "trial" "LRiverModel$Course;", .methodLink RX9 147 yX0_begin, .instanceMethod yX0_begin, .selects RX0 yX0_begin yX0_begin, .initialized RX0, .methodLink RX9 215 yX1_reading, .instanceMethod yX1_reading, .selects RX1 yX1_reading yX1_reading, .methodLink RX9 151 yX0_goHourBy, .instanceMethod yX0_goHourBy, .selects RX0 yX0_goHourBy yX0_goHourBy, .fieldLink RX9 46 "RiverModel" "startsB" "[I", .methodLink RX9 380 yX0_startFrom, .instanceMethod yX0_startFrom, .selects RX0 yX0_startFrom yX0_startFrom, .fieldLink RX9 43 "RiverModel" "skyB" "LRiverModel$Sky;", .fieldLink RX9 33 "RiverModel" "isOtherLaid" "Z", .fieldLink RX9 26 "RiverModel" "other" "LRiverModel$Model;", .code yX0_begin cX0_begin 3 none, .fieldLink RX0 15 "RiverModel$Course" "moved" "[J", .methodLink RX0 45 yJ7_fill_d0a16, .static yJ7_fill_d0a16, .initialized RJ7, .fieldLink RX0 18 "RiverModel$Course" "openings" "[I", .methodLink RX0 51 yJ7_fill_53178, .static yJ7_fill_53178, .fieldLink RX0 22 "RiverModel$Course" "due" "[J", .fieldLink RX0 25 "RiverModel$Course" "rained" "J", .fieldLink RX0 29 "RiverModel$Course" "air" "J", .fieldLink RX0 32 "RiverModel$Course" "sea" "J", .fieldLink RX0 35 "RiverModel$Course" "hours" "I", .fieldLink RX0 9 "RiverModel$Course" "held" "[J", .methodLink RX0 39 yX4_startOf, .instanceMethod yX4_startOf, .selects RX4 yX4_startOf yX4_startOf, .initialized RX4, .code yJ7_fill_d0a16 cJ7_fill_d0a16 5 none, .code yJ7_fill_53178 cJ7_fill_53178 4 none, .code yX4_startOf cX4_startOf 2 (some .int), .methodLink RX4 66 yX4_hasStore, .instanceMethod yX4_hasStore, .selects RX4 yX4_hasStore yX4_hasStore, .fieldLink RX4 15 "RiverModel$Model" "storeItems" "[I", .methodLink RX4 73 yX4_cell, .instanceMethod yX4_cell, .selects RX4 yX4_cell yX4_cell, .code yX4_hasStore cX4_hasStore 2 (some .boolean), .code yX4_cell cX4_cell 3 (some .int), .fieldLink RX4 9 "RiverModel$Model" "cells" "[I", .code yX1_reading cX1_reading 4 (some .long), .methodLink RX1 35 yX1_isSet, .fieldLink RX1 15 "RiverModel$Gauges" "places" "[I", .static yX9_isNoStore, .fieldLink RX1 50 "RiverModel$Course" "held" "[J", .static yX9_isNoItem, .fieldLink RX1 41 "RiverModel$Course" "moved" "[J", .code yX9_isNoStore cX9_isNoStore 1 (some .boolean), .code yX9_isNoItem cX9_isNoItem 1 (some .boolean), .code yX0_goHourBy cX0_goHourBy 3 none, .methodLink RX0 60 yX6_rainIn, .instanceMethod yX6_rainIn, .selects RX6 yX6_rainIn yX6_rainIn, .initialized RX6, .methodLink RX0 65 yX6_tempIn, .instanceMethod yX6_tempIn, .selects RX6 yX6_tempIn yX6_tempIn, .methodLink RX0 68 yX0_goHour, .instanceMethod yX0_goHour, .selects RX0 yX0_goHour yX0_goHour, .code yX6_rainIn cX6_rainIn 2 (some .int), .fieldLink RX6 9 "RiverModel$Sky" "rains" "[I", .code yX6_tempIn cX6_tempIn 2 (some .int), .fieldLink RX6 15 "RiverModel$Sky" "temps" "[I", .code yX0_goHour cX0_goHour 7 none, .methodLink RX0 72 yX0_bringDue, .instanceMethod yX0_bringDue, .selects RX0 yX0_bringDue yX0_bringDue, .fieldLink RX0 75 "RiverModel$Model" "many" "I", .methodLink RX0 78 yX0_amountOf, .instanceMethod yX0_amountOf, .selects RX0 yX0_amountOf yX0_amountOf, .methodLink RX0 82 yX0_move, .instanceMethod yX0_move, .selects RX0 yX0_move yX0_move, .code yX0_bringDue cX0_bringDue 3 none, .code yX0_amountOf cX0_amountOf 11 (some .long), .methodLink RX0 86 yX4_cell, .methodLink RX0 110 yX4_gateOf, .instanceMethod yX4_gateOf, .selects RX4 yX4_gateOf yX4_gateOf, .methodLink RX0 113 yX0_openingOf, .instanceMethod yX0_openingOf, .selects RX0 yX0_openingOf yX0_openingOf, .methodLink RX0 107 Lib.MathLoose.min_long.x, .static Lib.MathLoose.min_long.x, .initialized "java/lang/Math", .code Lib.MathLoose.min_long.x Lib.MathLoose.min_long.code 4 (some .long), .methodLink RX0 94 yX0_leakOf, .static yX0_leakOf, .constantLong RX0 117 (100), .methodLink RX0 98 yX4_capacityOf, .instanceMethod yX4_capacityOf, .selects RX4 yX4_capacityOf yX4_capacityOf, .methodLink RX0 101 Lib.MathLoose.max_long.x, .static Lib.MathLoose.max_long.x, .code Lib.MathLoose.max_long.x Lib.MathLoose.max_long.code 4 (some .long), .constantLong RX0 119 (10), .code yX4_gateOf cX4_gateOf 3 (some .int), .fieldLink RX4 28 "RiverModel$Model" "gates" "I", .fieldLink RX4 18 "RiverModel$Model" "gateItems" "[I", .code yX0_openingOf cX0_openingOf 2 (some .long), .static yX9_isNoGate, .code yX9_isNoGate cX9_isNoGate 1 (some .boolean), .code yX0_leakOf cX0_leakOf 8 (some .long), .code yX4_capacityOf cX4_capacityOf 2 (some .int), .code yX0_move cX0_move 8 none, .methodLink RX0 124 yX0_send, .instanceMethod yX0_send, .selects RX0 yX0_send yX0_send, .code yX0_send cX0_send 5 none, .code yX0_startFrom cX0_startFrom 3 none] ++ wsX90 ++ wsX10 ++ wsX00 ++ wsX40 ++ wsX60)
set_option maxRecDepth 20000 in
theorem gu_X9_blame_X9_isNoGauge_205 : GoodIn uX9_blame (va_wsS RX9 205 yX9_isNoGauge uX9_isNoGauge) := goodIn_r _ [1, 2, 3, 14] rfl (by decide +kernel)
set_option maxRecDepth 20000 in
theorem gu_X9_blame_X9_isOutside_99 : GoodIn uX9_blame (va_wsS RX9 99 yX9_isOutside uX9_isOutside) := goodIn_r _ [5, 6, 3, 15] rfl (by decide +kernel)
set_option maxRecDepth 20000 in
theorem gu_X9_blame_X9_lacksGauge_212 : GoodIn uX9_blame (wsV RX9 212 RX9 yX9_lacksGauge uX9_lacksGauge) := goodIn_r _ [7, 8, 9, 3, 16, 17, 18, 19, 20, 21, 22, 23, 24, 149, 150, 151, 152, 153, 154, 155, 156, 157, 158, 159, 160, 161, 162, 163, 164, 165, 166, 167, 168, 169, 170] rfl (by decide +kernel)
set_option maxRecDepth 20000 in
theorem gu_X9_blame_X9_changedReading_327 : GoodIn uX9_blame (wsV RX9 327 RX9 yX9_changedReading uX9_changedReading) := goodIn_r _ [10, 11, 12, 3, 25, 26, 27, 28, 29, 30, 31, 32, 18, 33, 34, 35, 22, 36, 37, 38, 39, 40, 41, 42, 43, 44, 45, 46, 47, 48, 49, 50, 51, 52, 53, 54, 55, 56, 57, 58, 59, 60, 61, 62, 63, 64, 65, 66, 67, 68, 69, 70, 71, 72, 73, 74, 75, 76, 77, 78, 20, 21, 79, 24, 3, 80, 81, 82, 83, 23, 84, 85, 86, 87, 88, 89, 90, 91, 92, 93, 94, 95, 96, 97, 6, 98, 15, 99, 100, 101, 102, 103, 104, 105, 106, 107, 108, 109, 110, 111, 112, 113, 114, 115, 116, 117, 118, 119, 120, 121, 122, 123, 124, 125, 126, 127, 128, 129, 130, 131, 132, 133, 134, 135, 136, 137, 138, 139, 140, 141, 142, 143, 144, 145, 146, 147, 148, 149, 150, 151, 152, 153, 154, 155, 156, 157, 158, 159, 160, 161, 162, 163, 164, 165, 166, 171, 172, 173, 174, 175, 176, 177, 178, 179, 180, 181, 182, 183, 184, 167, 168, 169, 170, 185, 186] rfl (by decide +kernel)
set_option maxHeartbeats 4000000 in
set_option maxRecDepth 100000 in
theorem s_X9_blame (l : Launch) (D : va_G) (t : Nat → Nat) (cI cL cC : ClassId) (gC : Int32) (gE : Int32) (G : Nat) (gW : Nat → Int32) (gA : Nat → Int32) (a0 : Nat) (a1 : Int32) (a2 : Int32) (a3 : Int32) (hGb : G ≤ 100000000) (k_a0 : t a0 = 1) : tM l yX9_blame uX9_blame 6 147 D (gF cI cL cC gC gE G gW gA) (gF cI cL cC gC gE (G + 192) gW gA) t cI cL cC [.ref a0, .int a1, .int a2, .int a3] wrC (pL (fun r => True)) := by
  refine tM.ofW (cc := cX9_blame) (maxL := 4) (ret := (some .long)) (by decide) rfl (Nat.le_of_ble_eq_true rfl) ?_
  intro p e s m below meth c hx hb hr hml hown hts hlk H locs hG hK hE hS ls hl
  have hl : lv_has ls 4 [(0, .ref a0), (1, .int a1), (2, .int a2), (3, .int a3)] := hl
  skip
  refine lv_iload_n hx hb dX9_blame_0 rfl (lv_at hl 1 rfl) ?_
  refine ty_calli ((W.runS (As := [.int a1]) (rest := []) ⟨hx, hb, hml, hown, hts⟩ (s_X9_isNoGauge l D t cI cL cC gC gE G gW gA a1 ) (va_cwS 1 hts gu_X9_blame_X9_isNoGauge_205 rfl rfl rfl (by decide +kernel) ⟨Nat.le_of_ble_eq_true rfl, Nat.le_of_ble_eq_true rfl⟩) (tP_S hG hE) rfl rfl hl.1 rfl (lv_room (Nat.le_of_ble_eq_true rfl)) dX9_blame_1 ⟨Nat.le_of_ble_eq_true rfl, Nat.le_of_ble_eq_true rfl⟩)) hS (fun k h => by simp [wr0] at h) (fun r_1 H locs hp_2 hG hS o_3 => ?_)
  rcases hp_2 with ⟨rfl, hc_259⟩ | ⟨rfl, hc_260, hc_261⟩
  · skip
    refine lv_if_ne (tgt := 26) hx hb dX9_blame_4 (by decide) (fun _ => ?_) (fun q => absurd q (by decide))
    refine lv_ldc2 hx hb hown (hts (.constantLong RX9 323 (-1000000000000000000)) (List.mem_of_getElem? (i := 4) rfl)) dX9_blame_26 ?_
    exact ty_lret hx hb hr hlk (hG.weak (fun _ _ => gF_mono (by omega))) hS True.intro dX9_blame_29
  · skip
    refine lv_if_ne (tgt := 26) hx hb dX9_blame_4 (by decide) (fun q => absurd rfl q) (fun _ => ?_)
    refine lv_iload_n hx hb dX9_blame_7 rfl (lv_at hl 2 rfl) ?_
    refine lv_pc (pc2 := 8) rfl ?_
    refine lv_iconst (v := 0) hx hb dX9_blame_8 (by decide) ?_
    refine lv_bipush (v := 95) hx hb dX9_blame_9 (by decide) ?_
    refine ty_calli ((W.runS (As := [.int a2, .int 0, .int 95]) (rest := []) ⟨hx, hb, hml, hown, hts⟩ (s_X9_isOutside l D t cI cL cC gC gE G gW gA a2 0 95 0 95 (by decide) (by decide) ) (va_cwS 3 hts gu_X9_blame_X9_isOutside_99 rfl rfl rfl (by decide +kernel) ⟨Nat.le_of_ble_eq_true rfl, Nat.le_of_ble_eq_true rfl⟩) (tP_S hG hE) rfl rfl hl.1 rfl (lv_room (Nat.le_of_ble_eq_true rfl)) dX9_blame_11 ⟨Nat.le_of_ble_eq_true rfl, Nat.le_of_ble_eq_true rfl⟩)) hS (fun k h => by simp [wr0] at h) (fun r_4 H locs hp_5 hG hS o_6 => ?_)
    rcases hp_5 with ⟨rfl, hc_262⟩ | ⟨rfl, hc_263, hc_264⟩
    · skip
      refine lv_if_ne (tgt := 26) hx hb dX9_blame_14 (by decide) (fun _ => ?_) (fun q => absurd q (by decide))
      refine lv_ldc2 hx hb hown (hts (.constantLong RX9 323 (-1000000000000000000)) (List.mem_of_getElem? (i := 4) rfl)) dX9_blame_26 ?_
      exact ty_lret hx hb hr hlk (hG.weak (fun _ _ => gF_mono (by omega))) hS True.intro dX9_blame_29
    · skip
      refine lv_if_ne (tgt := 26) hx hb dX9_blame_14 (by decide) (fun q => absurd rfl q) (fun _ => ?_)
      refine lv_iload_n hx hb dX9_blame_17 rfl (lv_at hl 3 rfl) ?_
      refine lv_pc (pc2 := 18) rfl ?_
      refine lv_iconst (v := 0) hx hb dX9_blame_18 (by decide) ?_
      refine lv_iconst (v := 3) hx hb dX9_blame_19 (by decide) ?_
      refine ty_calli ((W.runS (As := [.int a3, .int 0, .int 3]) (rest := []) ⟨hx, hb, hml, hown, hts⟩ (s_X9_isOutside l D t cI cL cC gC gE G gW gA a3 0 3 0 3 (by decide) (by decide) ) (va_cwS 3 hts gu_X9_blame_X9_isOutside_99 rfl rfl rfl (by decide +kernel) ⟨Nat.le_of_ble_eq_true rfl, Nat.le_of_ble_eq_true rfl⟩) (tP_S hG hE) rfl rfl hl.1 rfl (lv_room (Nat.le_of_ble_eq_true rfl)) dX9_blame_20 ⟨Nat.le_of_ble_eq_true rfl, Nat.le_of_ble_eq_true rfl⟩)) hS (fun k h => by simp [wr0] at h) (fun r_7 H locs hp_8 hG hS o_9 => ?_)
      rcases hp_8 with ⟨rfl, hc_265⟩ | ⟨rfl, hc_266, hc_267⟩
      · skip
        refine lv_if_eq (tgt := 30) hx hb dX9_blame_23 (by decide) (fun q => absurd q (by decide)) (fun _ => ?_)
        refine lv_ldc2 hx hb hown (hts (.constantLong RX9 323 (-1000000000000000000)) (List.mem_of_getElem? (i := 4) rfl)) dX9_blame_26 ?_
        exact ty_lret hx hb hr hlk (hG.weak (fun _ _ => gF_mono (by omega))) hS True.intro dX9_blame_29
      · skip
        refine lv_if_eq (tgt := 30) hx hb dX9_blame_23 (by decide) (fun _ => ?_) (fun q => absurd (by decide) q)
        refine lv_aload_n hx hb dX9_blame_30 rfl (lv_at hl 0 rfl) ?_
        refine lv_pc (pc2 := 31) rfl ?_
        refine lv_iload_n hx hb dX9_blame_31 rfl (lv_at hl 1 rfl) ?_
        obtain ⟨r_10, r_12, r_14, r_16, v_18, v_19, r_20, r_22, r_24, r_26, r_28, r_30, r_32, v_34, r_36, r_38, r_40, r_42, at_44, h_11, h_13, h_15, h_17, h_21, h_23, h_25, h_27, h_29, h_31, h_33, h_35, h_37, h_39, h_41, h_43⟩ := gF_o1 hG k_a0
        refine ty_calli ((W.runV (As := [.int a1]) (rest := []) ⟨hx, hb, hml, hown, hts⟩ (s_X9_lacksGauge l D t cI cL cC gC gE G gW gA a0 a1 k_a0) (cwV 1 hts gu_X9_blame_X9_lacksGauge_212 rfl rfl rfl (by decide +kernel) ⟨Nat.le_of_ble_eq_true rfl, Nat.le_of_ble_eq_true rfl⟩) (tP_V hG hE at_44 rfl) rfl rfl hl.1 rfl (lv_room (Nat.le_of_ble_eq_true rfl)) dX9_blame_32 ⟨Nat.le_of_ble_eq_true rfl, Nat.le_of_ble_eq_true rfl⟩)) hS (fun k h => by simp [wr0] at h) (fun r_45 H locs hp_46 hG hS o_47 => ?_)
        have at_44 := va_at.keptC at_44 o_47 k_a0 rfl
        rcases hp_46 with rfl | rfl
        · skip
          refine lv_if_eq (tgt := 42) hx hb dX9_blame_35 (by decide) (fun _ => ?_) (fun q => absurd (by decide) q)
          refine lv_iload_n hx hb dX9_blame_42 rfl (lv_at hl 3 rfl) ?_
          refine lv_iconst (v := 3) hx hb dX9_blame_43 (by decide) ?_
          refine lv_icmp_ne (tgt := 63) hx hb dX9_blame_44 (by decide) (fun c_48 => ?_) (fun c_48 => ?_)
          · skip
            have c_48 : a3.toInt ≠ 3 := q_ne c_48
            refine lv_aload_n hx hb dX9_blame_63 rfl (lv_at hl 0 rfl) ?_
            refine lv_iload_n hx hb dX9_blame_64 rfl (lv_at hl 3 rfl) ?_
            refine lv_pc (pc2 := 65) rfl ?_
            refine lv_iconst (v := 1) hx hb dX9_blame_65 (by decide) ?_
            refine lv_iadd hx hb dX9_blame_66 ?_
            refine lv_topi (fun x_49 e_50 => ?_)
            refine lv_iload_n hx hb dX9_blame_67 rfl (lv_at hl 1 rfl) ?_
            refine lv_iload_n hx hb dX9_blame_68 rfl (lv_at hl 2 rfl) ?_
            refine ty_calll ((W.runV (As := [.int x_49, .int a1, .int a2]) (rest := []) ⟨hx, hb, hml, hown, hts⟩ (s_X9_changedReading l D t cI cL cC gC gE G gW gA a0 x_49 a1 a2 (by omega) (by omega) k_a0) (cwV 3 hts gu_X9_blame_X9_changedReading_327 rfl rfl rfl (by decide +kernel) ⟨Nat.le_of_ble_eq_true rfl, Nat.le_of_ble_eq_true rfl⟩) (tP_V hG hE at_44 rfl) rfl rfl hl.1 rfl (lv_room (Nat.le_of_ble_eq_true rfl)) dX9_blame_69 ⟨Nat.le_of_ble_eq_true rfl, Nat.le_of_ble_eq_true rfl⟩)) hS (fun _ h => h) (fun z_51 H locs hp_52 hG hS o_53 => ?_)
            have at_44 := va_at.keptC at_44 o_53 k_a0 rfl
            refine lv_aload_n hx hb dX9_blame_72 rfl (lv_at hl 0 rfl) ?_
            refine lv_iload_n hx hb dX9_blame_73 rfl (lv_at hl 3 rfl) ?_
            refine lv_iload_n hx hb dX9_blame_74 rfl (lv_at hl 1 rfl) ?_
            refine lv_pc (pc2 := 75) rfl ?_
            refine lv_iload_n hx hb dX9_blame_75 rfl (lv_at hl 2 rfl) ?_
            refine ty_calll ((W.runV (As := [.int a3, .int a1, .int a2]) (rest := [.long z_51]) ⟨hx, hb, hml, hown, hts⟩ (s_X9_changedReading l D t cI cL cC gC gE (G + 96) gW gA a0 a3 a1 a2 (by omega) (by omega) k_a0) (cwV 3 hts gu_X9_blame_X9_changedReading_327 rfl rfl rfl (by decide +kernel) ⟨Nat.le_of_ble_eq_true rfl, Nat.le_of_ble_eq_true rfl⟩) (tP_V hG hE at_44 rfl) rfl rfl hl.1 rfl (lv_room (Nat.le_of_ble_eq_true rfl)) dX9_blame_76 ⟨Nat.le_of_ble_eq_true rfl, Nat.le_of_ble_eq_true rfl⟩)) hS (fun _ h => h) (fun z_54 H locs hp_55 hG hS o_56 => ?_)
            have at_44 := va_at.keptC at_44 o_56 k_a0 rfl
            refine lv_lsub hx hb dX9_blame_79 ?_
            refine lv_topl (fun z_57 e_58 => ?_)
            exact ty_lret hx hb hr hlk hG hS True.intro dX9_blame_80
          · skip
            have c_48 : a3.toInt = 3 := q_eq c_48
            refine lv_aload_n hx hb dX9_blame_47 rfl (lv_at hl 0 rfl) ?_
            refine lv_iconst (v := 3) hx hb dX9_blame_48 (by decide) ?_
            refine lv_iload_n hx hb dX9_blame_49 rfl (lv_at hl 1 rfl) ?_
            refine lv_iload_n hx hb dX9_blame_50 rfl (lv_at hl 2 rfl) ?_
            refine lv_pc (pc2 := 51) rfl ?_
            refine ty_calll ((W.runV (As := [.int 3, .int a1, .int a2]) (rest := []) ⟨hx, hb, hml, hown, hts⟩ (s_X9_changedReading l D t cI cL cC gC gE G gW gA a0 3 a1 a2 (by omega) (by omega) k_a0) (cwV 3 hts gu_X9_blame_X9_changedReading_327 rfl rfl rfl (by decide +kernel) ⟨Nat.le_of_ble_eq_true rfl, Nat.le_of_ble_eq_true rfl⟩) (tP_V hG hE at_44 rfl) rfl rfl hl.1 rfl (lv_room (Nat.le_of_ble_eq_true rfl)) dX9_blame_51 ⟨Nat.le_of_ble_eq_true rfl, Nat.le_of_ble_eq_true rfl⟩)) hS (fun _ h => h) (fun z_59 H locs hp_60 hG hS o_61 => ?_)
            have at_44 := va_at.keptC at_44 o_61 k_a0 rfl
            refine lv_aload_n hx hb dX9_blame_54 rfl (lv_at hl 0 rfl) ?_
            refine lv_iconst (v := 0) hx hb dX9_blame_55 (by decide) ?_
            refine lv_iload_n hx hb dX9_blame_56 rfl (lv_at hl 1 rfl) ?_
            refine lv_iload_n hx hb dX9_blame_57 rfl (lv_at hl 2 rfl) ?_
            refine ty_calll ((W.runV (As := [.int 0, .int a1, .int a2]) (rest := [.long z_59]) ⟨hx, hb, hml, hown, hts⟩ (s_X9_changedReading l D t cI cL cC gC gE (G + 96) gW gA a0 0 a1 a2 (by omega) (by omega) k_a0) (cwV 3 hts gu_X9_blame_X9_changedReading_327 rfl rfl rfl (by decide +kernel) ⟨Nat.le_of_ble_eq_true rfl, Nat.le_of_ble_eq_true rfl⟩) (tP_V hG hE at_44 rfl) rfl rfl hl.1 rfl (lv_room (Nat.le_of_ble_eq_true rfl)) dX9_blame_58 ⟨Nat.le_of_ble_eq_true rfl, Nat.le_of_ble_eq_true rfl⟩)) hS (fun _ h => h) (fun z_62 H locs hp_63 hG hS o_64 => ?_)
            have at_44 := va_at.keptC at_44 o_64 k_a0 rfl
            refine lv_lsub hx hb dX9_blame_61 ?_
            refine lv_topl (fun z_65 e_66 => ?_)
            exact ty_lret hx hb hr hlk hG hS True.intro dX9_blame_62
        · skip
          refine lv_pc (pc2 := 35) rfl ?_
          refine lv_if_eq (tgt := 42) hx hb dX9_blame_35 (by decide) (fun q => absurd q (by decide)) (fun _ => ?_)
          refine lv_ldc2 hx hb hown (hts (.constantLong RX9 325 (-1000000000000000001)) (List.mem_of_getElem? (i := 13) rfl)) dX9_blame_38 ?_
          exact ty_lret hx hb hr hlk (hG.weak (fun _ _ => gF_mono (by omega))) hS True.intro dX9_blame_41

def uX9_keep : List Cond := .code yX9_keep cX9_keep 1 (some .int) :: ([.fieldLink RX9 29 "RiverModel" "isBuilt" "Z", .fieldLink RX9 67 "RiverModel" "keptMany" "I", .fieldLink RX9 63 "RiverModel" "kept" "[LRiverModel$Course;", .fieldLink RX9 53 "RiverModel" "now" "LRiverModel$Course;", .methodLink RX9 330 yX0_copyFrom, .instanceMethod yX0_copyFrom, .selects RX0 yX0_copyFrom yX0_copyFrom, .initialized RX0, .code yX0_copyFrom cX0_copyFrom 2 none, .fieldLink RX0 9 "RiverModel$Course" "held" "[J", .methodLink RX0 54 arraycopyName, .native arraycopyName, .static arraycopyName, .initialized "java/lang/System", .fieldLink RX0 15 "RiverModel$Course" "moved" "[J", .fieldLink RX0 18 "RiverModel$Course" "openings" "[I", .fieldLink RX0 22 "RiverModel$Course" "due" "[J", .fieldLink RX0 25 "RiverModel$Course" "rained" "J", .fieldLink RX0 29 "RiverModel$Course" "air" "J", .fieldLink RX0 32 "RiverModel$Course" "sea" "J", .fieldLink RX0 35 "RiverModel$Course" "hours" "I"] ++ wsX90 ++ wsX00)
set_option maxRecDepth 20000 in
theorem gu_X9_keep_X0_copyFrom_330 : GoodIn uX9_keep (wsV RX9 330 RX0 yX0_copyFrom uX0_copyFrom) := goodIn_r _ [5, 6, 7, 8, 9, 10, 11, 12, 13, 14, 15, 16, 17, 18, 19, 20, 21, 40, 41, 42, 43, 44, 45, 46, 47] rfl (by decide +kernel)
set_option maxHeartbeats 4000000 in
set_option maxRecDepth 100000 in
theorem s_X9_keep (l : Launch) (D : va_G) (t : Nat → Nat) (cI cL cC : ClassId) (gC : Int32) (gE : Int32) (G : Nat) (gW : Nat → Int32) (gA : Nat → Int32) (a0 : Nat) (k_a0 : t a0 = 1) : tM l yX9_keep uX9_keep 2 81 D (gF cI cL cC gC gE G gW gA) (gF cI cL cC gC gE G gW gA) t cI cL cC [.ref a0] wrAll (pI (fun r => True)) := by
  refine tM.ofW (cc := cX9_keep) (maxL := 1) (ret := (some .int)) (by decide) rfl (Nat.le_of_ble_eq_true rfl) ?_
  intro p e s m below meth c hx hb hr hml hown hts hlk H locs hG hK hE hS ls hl
  have hl : lv_has ls 1 [(0, .ref a0)] := hl
  have in9 : ∀ w ∈ wsX90, w ∈ uX9_keep := fun w h => List.mem_cons_of_mem _ (List.mem_append_left _ (List.mem_append_right _ h))
  refine lv_aload_n hx hb dX9_keep_0 rfl (lv_at hl 0 rfl) ?_
  obtain ⟨r_1, r_3, r_5, r_7, v_9, v_10, r_11, r_13, r_15, r_17, r_19, r_21, r_23, v_25, r_27, r_29, r_31, r_33, at_35, h_2, h_4, h_6, h_8, h_12, h_14, h_16, h_18, h_20, h_22, h_24, h_26, h_28, h_30, h_32, h_34⟩ := gF_o1 hG k_a0
  refine va_get (D := D) (ci := 8) (v := .int v_9) (C := RX9) (T := TX9) (N := 18) hx hb hts in9 hown hK (va_one at_35) 0 rfl rfl 4 (by decide) (hts (.fieldLink RX9 29 "RiverModel" "isBuilt" "Z") (List.mem_of_getElem? (i := 1) rfl)) (fun _ h9 => h9) rfl dX9_keep_1 ?_
  refine lv_if_ne (tgt := 10) hx hb dX9_keep_4 (by decide) (fun c_36 => ?_) (fun c_36 => ?_)
  · skip
    have c_36 : v_9.toInt ≠ 0 := q_ne c_36
    refine lv_aload_n hx hb dX9_keep_10 rfl (lv_at hl 0 rfl) ?_
    refine va_get (D := D) (ci := 8) (v := .int v_25) (C := RX9) (T := TX9) (N := 18) hx hb hts in9 hown hK (va_one at_35) 0 rfl rfl 13 (by decide) (hts (.fieldLink RX9 67 "RiverModel" "keptMany" "I") (List.mem_of_getElem? (i := 2) rfl)) (fun _ h9 => h9) rfl dX9_keep_11 ?_
    refine lv_iconst (v := 3) hx hb dX9_keep_14 (by decide) ?_
    refine lv_icmp_lt (tgt := 21) hx hb dX9_keep_15 (by decide) (fun c_37 => ?_) (fun c_37 => ?_)
    · skip
      have c_37 : v_25.toInt < 3 := q_lt c_37
      refine lv_pc (pc2 := 21) rfl ?_
      refine lv_aload_n hx hb dX9_keep_21 rfl (lv_at hl 0 rfl) ?_
      refine va_get (D := D) (ci := 8) (v := .ref r_23) (C := RX9) (T := TX9) (N := 18) hx hb hts in9 hown hK (va_one at_35) 0 rfl rfl 12 (by decide) (hts (.fieldLink RX9 63 "RiverModel" "kept" "[LRiverModel$Course;") (List.mem_of_getElem? (i := 3) rfl)) (fun _ h9 => h9) rfl dX9_keep_22 ?_
      refine lv_aload_n hx hb dX9_keep_25 rfl (lv_at hl 0 rfl) ?_
      refine va_get (D := D) (ci := 8) (v := .int v_25) (C := RX9) (T := TX9) (N := 18) hx hb hts in9 hown hK (va_one at_35) 0 rfl rfl 13 (by decide) (hts (.fieldLink RX9 67 "RiverModel" "keptMany" "I") (List.mem_of_getElem? (i := 2) rfl)) (fun _ h9 => h9) rfl dX9_keep_26 ?_
      obtain ⟨f_38, at_39, h_40⟩ := gF_o36 hG h_24
      have b_41 : vp_in v_25 3 := (q_in (by omega) (by omega))
      refine va_aldq hx hb hK (va_one at_39) 0 2 rfl rfl b_41 dX9_keep_29 ?_
      obtain ⟨r_42, e_43, h_44⟩ := h_40 _ (q_inlt b_41)
      rw [e_43]
      show W p l _ _ s m _ below meth c _ _ _ _ _ (F0 m _ ls (.ref r_42 :: _))
      refine lv_aload_n hx hb dX9_keep_30 rfl (lv_at hl 0 rfl) ?_
      refine va_get (D := D) (ci := 8) (v := .ref r_17) (C := RX9) (T := TX9) (N := 18) hx hb hts in9 hown hK (va_one at_35) 0 rfl rfl 9 (by decide) (hts (.fieldLink RX9 53 "RiverModel" "now" "LRiverModel$Course;") (List.mem_of_getElem? (i := 4) rfl)) (fun _ h9 => h9) rfl dX9_keep_31 ?_
      obtain ⟨r_45, r_47, r_49, r_51, v_53, v_54, v_55, v_56, at_58, h_46, h_48, h_50, h_52, h_57⟩ := gF_o5 hG h_44
      refine ty_callv ((W.runV (As := [.ref r_17]) (rest := []) ⟨hx, hb, hml, hown, hts⟩ (s_X0_copyFrom l D t cI cL cC gC gE G gW gA r_42 r_17 h_44 h_18) (cwV 1 hts gu_X9_keep_X0_copyFrom_330 rfl rfl rfl (by decide +kernel) ⟨Nat.le_of_ble_eq_true rfl, Nat.le_of_ble_eq_true rfl⟩) (tP_V hG hE at_58 rfl) rfl rfl hl.1 rfl (lv_room (Nat.le_of_ble_eq_true rfl)) dX9_keep_34 ⟨Nat.le_of_ble_eq_true rfl, Nat.le_of_ble_eq_true rfl⟩)) hS (wrL_sub (by decide)) (fun H locs hp_60 hG hS o_61 => ?_)
      have at_35 := va_at.keptC at_35 o_61 k_a0 rfl
      have at_39 := va_at.keptC at_39 o_61 h_24 rfl
      refine lv_pc (pc2 := 37) rfl ?_
      refine lv_aload_n hx hb dX9_keep_37 rfl (lv_at hl 0 rfl) ?_
      refine lv_dup hx hb dX9_keep_38 rfl ?_
      refine va_get (D := D) (ci := 8) (v := .int v_25) (C := RX9) (T := TX9) (N := 18) hx hb hts in9 hown hK (va_one at_35) 0 rfl rfl 13 (by decide) (hts (.fieldLink RX9 67 "RiverModel" "keptMany" "I") (List.mem_of_getElem? (i := 2) rfl)) (fun _ h9 => h9) rfl dX9_keep_39 ?_
      refine lv_iconst (v := 1) hx hb dX9_keep_42 (by decide) ?_
      refine lv_iadd hx hb dX9_keep_43 ?_
      refine lv_topi (fun x_62 e_63 => ?_)
      have i_x_62 : x_62.toInt = v_25.toInt + 1 := by rw [e_63]; exact (q_add (by rw [show (1 : Int32).toInt = 1 by decide]; omega) (by rw [show (1 : Int32).toInt = 1 by decide]; omega)).trans (by rw [show (1 : Int32).toInt = 1 by decide])
      refine ty_put (D := D) (ci := 8) (v := .int x_62) (ty := .int) (C := RX9) (T := TX9) (N := 18) (F2 := (gF cI cL cC gC gE G gW gA)) hx hb hts in9 tyX9 tyX9_ok nmX9 hown hK hG hS at_35 (by rw [k_a0]; rfl) rfl 13 (by decide) (hts (.fieldLink RX9 67 "RiverModel" "keptMany" "I") (List.mem_of_getElem? (i := 2) rfl)) (fun _ h9 => h9) rfl (by decide +kernel) rfl rfl (Nat.le_of_ble_eq_true rfl) (by rw [k_a0]; exact ⟨r_1, r_3, r_5, r_7, v_9, v_10, r_11, r_13, r_15, r_17, r_19, r_21, r_23, x_62, r_27, r_29, r_31, r_33, rfl, h_2, h_4, h_6, h_8, h_12, h_14, h_16, h_18, h_20, h_22, h_24, (by omega), h_28, h_30, h_32, h_34⟩) tFF dX9_keep_44 (fun H locs hG hS at_64 o_65 => ?_)
      have at_64 : va_at D vwCl (a0, .inr (8, [.ref r_1, .ref r_3, .ref r_5, .ref r_7, .int v_9, .int v_10, .ref r_11, .ref r_13, .ref r_15, .ref r_17, .ref r_19, .ref r_21, .ref r_23, .int x_62, .ref r_27, .ref r_29, .ref r_31, .ref r_33])) H := at_64
      have at_39 := va_at.keptK at_39 o_65 k_a0 h_24 rfl
      refine lv_aload_n hx hb dX9_keep_47 rfl (lv_at hl 0 rfl) ?_
      refine va_get (D := D) (ci := 8) (v := .int x_62) (C := RX9) (T := TX9) (N := 18) hx hb hts in9 hown hK (va_one at_64) 0 rfl rfl 13 (by decide) (hts (.fieldLink RX9 67 "RiverModel" "keptMany" "I") (List.mem_of_getElem? (i := 2) rfl)) (fun _ h9 => h9) rfl dX9_keep_48 ?_
      refine lv_pc (pc2 := 51) rfl ?_
      exact ty_iret hx hb hr hlk hG hS True.intro dX9_keep_51
    · skip
      have c_37 : 3 ≤ v_25.toInt := q_nlt c_37
      refine lv_bipush (v := (-3)) hx hb dX9_keep_18 (by decide) ?_
      exact ty_iret hx hb hr hlk hG hS True.intro dX9_keep_20
  · skip
    have c_36 : v_9.toInt = 0 := q_eq c_36
    refine lv_bipush (v := (-2)) hx hb dX9_keep_7 (by decide) ?_
    exact ty_iret hx hb hr hlk hG hS True.intro dX9_keep_9

def uX9_back : List Cond := .code yX9_back cX9_back 1 (some .int) :: ([.fieldLink RX9 67 "RiverModel" "keptMany" "I", .methodLink RX9 99 yX9_isOutside, .static yX9_isOutside, .initialized RX9, .fieldLink RX9 53 "RiverModel" "now" "LRiverModel$Course;", .fieldLink RX9 63 "RiverModel" "kept" "[LRiverModel$Course;", .methodLink RX9 330 yX0_copyFrom, .instanceMethod yX0_copyFrom, .selects RX0 yX0_copyFrom yX0_copyFrom, .initialized RX0, .code yX9_isOutside cX9_isOutside 3 (some .boolean), .code yX0_copyFrom cX0_copyFrom 2 none, .fieldLink RX0 9 "RiverModel$Course" "held" "[J", .methodLink RX0 54 arraycopyName, .native arraycopyName, .static arraycopyName, .initialized "java/lang/System", .fieldLink RX0 15 "RiverModel$Course" "moved" "[J", .fieldLink RX0 18 "RiverModel$Course" "openings" "[I", .fieldLink RX0 22 "RiverModel$Course" "due" "[J", .fieldLink RX0 25 "RiverModel$Course" "rained" "J", .fieldLink RX0 29 "RiverModel$Course" "air" "J", .fieldLink RX0 32 "RiverModel$Course" "sea" "J", .fieldLink RX0 35 "RiverModel$Course" "hours" "I"] ++ wsX90 ++ wsX00)
set_option maxRecDepth 20000 in
theorem gu_X9_back_X9_isOutside_99 : GoodIn uX9_back (va_wsS RX9 99 yX9_isOutside uX9_isOutside) := goodIn_r _ [2, 3, 4, 11] rfl (by decide +kernel)
set_option maxRecDepth 20000 in
theorem gu_X9_back_X0_copyFrom_330 : GoodIn uX9_back (wsV RX9 330 RX0 yX0_copyFrom uX0_copyFrom) := goodIn_r _ [7, 8, 9, 10, 12, 13, 14, 15, 16, 17, 18, 19, 20, 21, 22, 23, 24, 43, 44, 45, 46, 47, 48, 49, 50] rfl (by decide +kernel)
set_option maxHeartbeats 4000000 in
set_option maxRecDepth 100000 in
theorem s_X9_back (l : Launch) (D : va_G) (t : Nat → Nat) (cI cL cC : ClassId) (gC : Int32) (gE : Int32) (G : Nat) (gW : Nat → Int32) (gA : Nat → Int32) (a0 : Nat) (k_a0 : t a0 = 1) : tM l yX9_back uX9_back 2 81 D (gF cI cL cC gC gE G gW gA) (gF cI cL cC gC gE G gW gA) t cI cL cC [.ref a0] wrAll (pI (fun r => True)) := by
  refine tM.ofW (cc := cX9_back) (maxL := 1) (ret := (some .int)) (by decide) rfl (Nat.le_of_ble_eq_true rfl) ?_
  intro p e s m below meth c hx hb hr hml hown hts hlk H locs hG hK hE hS ls hl
  have hl : lv_has ls 1 [(0, .ref a0)] := hl
  have in9 : ∀ w ∈ wsX90, w ∈ uX9_back := fun w h => List.mem_cons_of_mem _ (List.mem_append_left _ (List.mem_append_right _ h))
  refine lv_aload_n hx hb dX9_back_0 rfl (lv_at hl 0 rfl) ?_
  obtain ⟨r_1, r_3, r_5, r_7, v_9, v_10, r_11, r_13, r_15, r_17, r_19, r_21, r_23, v_25, r_27, r_29, r_31, r_33, at_35, h_2, h_4, h_6, h_8, h_12, h_14, h_16, h_18, h_20, h_22, h_24, h_26, h_28, h_30, h_32, h_34⟩ := gF_o1 hG k_a0
  refine va_get (D := D) (ci := 8) (v := .int v_25) (C := RX9) (T := TX9) (N := 18) hx hb hts in9 hown hK (va_one at_35) 0 rfl rfl 13 (by decide) (hts (.fieldLink RX9 67 "RiverModel" "keptMany" "I") (List.mem_of_getElem? (i := 1) rfl)) (fun _ h9 => h9) rfl dX9_back_1 ?_
  refine lv_iconst (v := 1) hx hb dX9_back_4 (by decide) ?_
  refine lv_iconst (v := 3) hx hb dX9_back_5 (by decide) ?_
  refine ty_calli ((W.runS (As := [.int v_25, .int 1, .int 3]) (rest := []) ⟨hx, hb, hml, hown, hts⟩ (s_X9_isOutside l D t cI cL cC gC gE G gW gA v_25 1 3 1 3 (by decide) (by decide) ) (va_cwS 3 hts gu_X9_back_X9_isOutside_99 rfl rfl rfl (by decide +kernel) ⟨Nat.le_of_ble_eq_true rfl, Nat.le_of_ble_eq_true rfl⟩) (tP_S hG hE) rfl rfl hl.1 rfl (lv_room (Nat.le_of_ble_eq_true rfl)) dX9_back_6 ⟨Nat.le_of_ble_eq_true rfl, Nat.le_of_ble_eq_true rfl⟩)) hS (fun k h => by simp [wr0] at h) (fun r_36 H locs hp_37 hG hS o_38 => ?_)
  have at_35 := va_at.keptC at_35 o_38 k_a0 rfl
  rcases hp_37 with ⟨rfl, hc_268⟩ | ⟨rfl, hc_269, hc_270⟩
  · skip
    refine lv_if_eq (tgt := 15) hx hb dX9_back_9 (by decide) (fun q => absurd q (by decide)) (fun _ => ?_)
    refine lv_bipush (v := (-2)) hx hb dX9_back_12 (by decide) ?_
    refine lv_pc (pc2 := 14) rfl ?_
    exact ty_iret hx hb hr hlk hG hS True.intro dX9_back_14
  · skip
    refine lv_if_eq (tgt := 15) hx hb dX9_back_9 (by decide) (fun _ => ?_) (fun q => absurd (by decide) q)
    refine lv_aload_n hx hb dX9_back_15 rfl (lv_at hl 0 rfl) ?_
    refine lv_dup hx hb dX9_back_16 rfl ?_
    refine va_get (D := D) (ci := 8) (v := .int v_25) (C := RX9) (T := TX9) (N := 18) hx hb hts in9 hown hK (va_one at_35) 0 rfl rfl 13 (by decide) (hts (.fieldLink RX9 67 "RiverModel" "keptMany" "I") (List.mem_of_getElem? (i := 1) rfl)) (fun _ h9 => h9) rfl dX9_back_17 ?_
    refine lv_iconst (v := 1) hx hb dX9_back_20 (by decide) ?_
    refine lv_isub hx hb dX9_back_21 ?_
    refine lv_topi (fun x_39 e_40 => ?_)
    have i_x_39 : x_39.toInt = v_25.toInt - 1 := by rw [e_40]; exact (q_sub (by rw [show (1 : Int32).toInt = 1 by decide]; omega) (by rw [show (1 : Int32).toInt = 1 by decide]; omega)).trans (by rw [show (1 : Int32).toInt = 1 by decide])
    refine ty_put (D := D) (ci := 8) (v := .int x_39) (ty := .int) (C := RX9) (T := TX9) (N := 18) (F2 := (gF cI cL cC gC gE G gW gA)) hx hb hts in9 tyX9 tyX9_ok nmX9 hown hK hG hS at_35 (by rw [k_a0]; rfl) rfl 13 (by decide) (hts (.fieldLink RX9 67 "RiverModel" "keptMany" "I") (List.mem_of_getElem? (i := 1) rfl)) (fun _ h9 => h9) rfl (by decide +kernel) rfl rfl (Nat.le_of_ble_eq_true rfl) (by rw [k_a0]; exact ⟨r_1, r_3, r_5, r_7, v_9, v_10, r_11, r_13, r_15, r_17, r_19, r_21, r_23, x_39, r_27, r_29, r_31, r_33, rfl, h_2, h_4, h_6, h_8, h_12, h_14, h_16, h_18, h_20, h_22, h_24, (by omega), h_28, h_30, h_32, h_34⟩) tFF dX9_back_22 (fun H locs hG hS at_41 o_42 => ?_)
    have at_41 : va_at D vwCl (a0, .inr (8, [.ref r_1, .ref r_3, .ref r_5, .ref r_7, .int v_9, .int v_10, .ref r_11, .ref r_13, .ref r_15, .ref r_17, .ref r_19, .ref r_21, .ref r_23, .int x_39, .ref r_27, .ref r_29, .ref r_31, .ref r_33])) H := at_41
    refine lv_pc (pc2 := 25) rfl ?_
    refine lv_aload_n hx hb dX9_back_25 rfl (lv_at hl 0 rfl) ?_
    refine va_get (D := D) (ci := 8) (v := .ref r_17) (C := RX9) (T := TX9) (N := 18) hx hb hts in9 hown hK (va_one at_41) 0 rfl rfl 9 (by decide) (hts (.fieldLink RX9 53 "RiverModel" "now" "LRiverModel$Course;") (List.mem_of_getElem? (i := 5) rfl)) (fun _ h9 => h9) rfl dX9_back_26 ?_
    refine lv_aload_n hx hb dX9_back_29 rfl (lv_at hl 0 rfl) ?_
    refine va_get (D := D) (ci := 8) (v := .ref r_23) (C := RX9) (T := TX9) (N := 18) hx hb hts in9 hown hK (va_one at_41) 0 rfl rfl 12 (by decide) (hts (.fieldLink RX9 63 "RiverModel" "kept" "[LRiverModel$Course;") (List.mem_of_getElem? (i := 6) rfl)) (fun _ h9 => h9) rfl dX9_back_30 ?_
    refine lv_aload_n hx hb dX9_back_33 rfl (lv_at hl 0 rfl) ?_
    refine va_get (D := D) (ci := 8) (v := .int x_39) (C := RX9) (T := TX9) (N := 18) hx hb hts in9 hown hK (va_one at_41) 0 rfl rfl 13 (by decide) (hts (.fieldLink RX9 67 "RiverModel" "keptMany" "I") (List.mem_of_getElem? (i := 1) rfl)) (fun _ h9 => h9) rfl dX9_back_34 ?_
    obtain ⟨f_43, at_44, h_45⟩ := gF_o36 hG h_24
    have b_46 : vp_in x_39 3 := (q_in (by omega) (by omega))
    refine va_aldq hx hb hK (va_one at_44) 0 2 rfl rfl b_46 dX9_back_37 ?_
    obtain ⟨r_47, e_48, h_49⟩ := h_45 _ (q_inlt b_46)
    rw [e_48]
    show W p l _ _ s m _ below meth c _ _ _ _ _ (F0 m _ ls (.ref r_47 :: _))
    obtain ⟨r_50, r_52, r_54, r_56, v_58, v_59, v_60, v_61, at_63, h_51, h_53, h_55, h_57, h_62⟩ := gF_o5 hG h_18
    refine ty_callv ((W.runV (As := [.ref r_47]) (rest := []) ⟨hx, hb, hml, hown, hts⟩ (s_X0_copyFrom l D t cI cL cC gC gE G gW gA r_17 r_47 h_18 h_49) (cwV 1 hts gu_X9_back_X0_copyFrom_330 rfl rfl rfl (by decide +kernel) ⟨Nat.le_of_ble_eq_true rfl, Nat.le_of_ble_eq_true rfl⟩) (tP_V hG hE at_63 rfl) rfl rfl hl.1 rfl (lv_room (Nat.le_of_ble_eq_true rfl)) dX9_back_38 ⟨Nat.le_of_ble_eq_true rfl, Nat.le_of_ble_eq_true rfl⟩)) hS (wrL_sub (by decide)) (fun H locs hp_65 hG hS o_66 => ?_)
    have at_41 := va_at.keptC at_41 o_66 k_a0 rfl
    have at_44 := va_at.keptC at_44 o_66 h_24 rfl
    refine lv_pc (pc2 := 41) rfl ?_
    refine lv_aload_n hx hb dX9_back_41 rfl (lv_at hl 0 rfl) ?_
    refine va_get (D := D) (ci := 8) (v := .int x_39) (C := RX9) (T := TX9) (N := 18) hx hb hts in9 hown hK (va_one at_41) 0 rfl rfl 13 (by decide) (hts (.fieldLink RX9 67 "RiverModel" "keptMany" "I") (List.mem_of_getElem? (i := 1) rfl)) (fun _ h9 => h9) rfl dX9_back_42 ?_
    exact ty_iret hx hb hr hlk hG hS True.intro dX9_back_45

def uX9_count : List Cond := .code yX9_count cX9_count 2 (some .int) :: ([.fieldLink RX9 10 "RiverModel" "text" "LRiverModel$Text;", .fieldLink RX9 103 "RiverModel$Text" "length" "I", .fieldLink RX9 29 "RiverModel" "isBuilt" "Z", .fieldLink RX9 19 "RiverModel" "model" "LRiverModel$Model;", .fieldLink RX9 124 "RiverModel$Model" "many" "I", .fieldLink RX9 114 "RiverModel$Model" "stores" "I", .fieldLink RX9 333 "RiverModel$Model" "gates" "I", .fieldLink RX9 53 "RiverModel" "now" "LRiverModel$Course;", .fieldLink RX9 144 "RiverModel$Course" "hours" "I", .fieldLink RX9 81 "RiverModel" "knobs" "LRiverModel$Knobs;", .methodLink RX9 336 yX3_setMany, .instanceMethod yX3_setMany, .selects RX3 yX3_setMany yX3_setMany, .initialized RX3, .fieldLink RX9 74 "RiverModel" "gauges" "LRiverModel$Gauges;", .methodLink RX9 339 yX1_setMany, .instanceMethod yX1_setMany, .selects RX1 yX1_setMany yX1_setMany, .initialized RX1, .methodLink RX9 340 yX1_seenMany, .instanceMethod yX1_seenMany, .selects RX1 yX1_seenMany yX1_seenMany, .fieldLink RX9 67 "RiverModel" "keptMany" "I", .code yX3_setMany cX3_setMany 1 (some .int), .methodLink RX3 37 yX3_isSet, .instanceMethod yX3_isSet, .selects RX3 yX3_isSet yX3_isSet, .code yX3_isSet cX3_isSet 2 (some .boolean), .fieldLink RX3 24 "RiverModel$Knobs" "manys" "[I", .code yX1_setMany cX1_setMany 3 (some .int), .methodLink RX1 35 yX1_isSet, .instanceMethod yX1_isSet, .selects RX1 yX1_isSet yX1_isSet, .code yX1_isSet cX1_isSet 2 (some .boolean), .fieldLink RX1 9 "RiverModel$Gauges" "whats" "[I", .code yX1_seenMany cX1_seenMany 3 (some .int), .fieldLink RX1 18 "RiverModel$Gauges" "seen" "[I"] ++ wsX90 ++ wsX70 ++ wsX40 ++ wsX00 ++ wsX30 ++ wsX10)
set_option maxRecDepth 20000 in
theorem gu_X9_count_X3_setMany_336 : GoodIn uX9_count (wsV RX9 336 RX3 yX3_setMany uX3_setMany) := goodIn_r _ [11, 12, 13, 14, 24, 25, 26, 27, 14, 28, 29, 74, 75, 76, 77, 78] rfl (by decide +kernel)
set_option maxRecDepth 20000 in
theorem gu_X9_count_X1_setMany_339 : GoodIn uX9_count (wsV RX9 339 RX1 yX1_setMany uX1_setMany) := goodIn_r _ [16, 17, 18, 19, 30, 31, 32, 33, 19, 34, 35, 79, 80, 81, 82] rfl (by decide +kernel)
set_option maxRecDepth 20000 in
theorem gu_X9_count_X1_seenMany_340 : GoodIn uX9_count (wsV RX9 340 RX1 yX1_seenMany uX1_seenMany) := goodIn_r _ [20, 21, 22, 19, 36, 37, 79, 80, 81, 82] rfl (by decide +kernel)
set_option maxHeartbeats 4000000 in
set_option maxRecDepth 100000 in
theorem s_X9_count (l : Launch) (D : va_G) (t : Nat → Nat) (cI cL cC : ClassId) (gC : Int32) (gE : Int32) (G : Nat) (gW : Nat → Int32) (gA : Nat → Int32) (a0 : Nat) (a1 : Int32) (k_a0 : t a0 = 1) : tM l yX9_count uX9_count 2 43 D (gF cI cL cC gC gE G gW gA) (gF cI cL cC gC gE G gW gA) t cI cL cC [.ref a0, .int a1] wr0 (pI (fun r => True)) := by
  refine tM.ofW (cc := cX9_count) (maxL := 2) (ret := (some .int)) (by decide) rfl (Nat.le_of_ble_eq_true rfl) ?_
  intro p e s m below meth c hx hb hr hml hown hts hlk H locs hG hK hE hS ls hl
  have hl : lv_has ls 2 [(0, .ref a0), (1, .int a1)] := hl
  have in9 : ∀ w ∈ wsX90, w ∈ uX9_count := fun w h => List.mem_cons_of_mem _ (List.mem_append_left _ (List.mem_append_left _ (List.mem_append_left _ (List.mem_append_left _ (List.mem_append_left _ (List.mem_append_right _ h))))))
  have in7 : ∀ w ∈ wsX70, w ∈ uX9_count := fun w h => List.mem_cons_of_mem _ (List.mem_append_left _ (List.mem_append_left _ (List.mem_append_left _ (List.mem_append_left _ (List.mem_append_right _ h)))))
  have in4 : ∀ w ∈ wsX40, w ∈ uX9_count := fun w h => List.mem_cons_of_mem _ (List.mem_append_left _ (List.mem_append_left _ (List.mem_append_left _ (List.mem_append_right _ h))))
  have in0 : ∀ w ∈ wsX00, w ∈ uX9_count := fun w h => List.mem_cons_of_mem _ (List.mem_append_left _ (List.mem_append_left _ (List.mem_append_right _ h)))
  refine lv_iload_n hx hb dX9_count_0 rfl (lv_at hl 1 rfl) ?_
  by_cases k_1 : a1.toInt = 0
  · refine lv_tableIn (tgt := 52) hx hb dX9_count_1 (by rw [k_1]; decide) (by rw [k_1]; decide) (by rw [k_1]; rfl) (by decide) ?_
    refine lv_aload_n hx hb dX9_count_52 rfl (lv_at hl 0 rfl) ?_
    obtain ⟨r_2, r_4, r_6, r_8, v_10, v_11, r_12, r_14, r_16, r_18, r_20, r_22, r_24, v_26, r_28, r_30, r_32, r_34, at_36, h_3, h_5, h_7, h_9, h_13, h_15, h_17, h_19, h_21, h_23, h_25, h_27, h_29, h_31, h_33, h_35⟩ := gF_o1 hG k_a0
    refine va_get (D := D) (ci := 8) (v := .ref r_2) (C := RX9) (T := TX9) (N := 18) hx hb hts in9 hown hK (va_one at_36) 0 rfl rfl 0 (by decide) (hts (.fieldLink RX9 10 "RiverModel" "text" "LRiverModel$Text;") (List.mem_of_getElem? (i := 1) rfl)) (fun _ h9 => h9) rfl dX9_count_53 ?_
    obtain ⟨r_37, r_39, v_41, at_43, h_38, h_40, h_42⟩ := gF_o2 hG h_3
    refine va_get (D := D) (ci := 6) (v := .int gC) (C := RX7) (T := TX7) (N := 4) hx hb hts in7 hown hK (va_one at_43) 0 rfl rfl 2 (by decide) (hts (.fieldLink RX9 103 "RiverModel$Text" "length" "I") (List.mem_of_getElem? (i := 2) rfl)) (fun _ h9 => h9) rfl dX9_count_56 ?_
    exact ty_iret hx hb hr hlk hG hS True.intro dX9_count_59
  by_cases k_44 : a1.toInt = 1
  · refine lv_tableIn (tgt := 60) hx hb dX9_count_1 (by rw [k_44]; decide) (by rw [k_44]; decide) (by rw [k_44]; rfl) (by decide) ?_
    refine lv_aload_n hx hb dX9_count_60 rfl (lv_at hl 0 rfl) ?_
    refine lv_pc (pc2 := 61) rfl ?_
    obtain ⟨r_45, r_47, r_49, r_51, v_53, v_54, r_55, r_57, r_59, r_61, r_63, r_65, r_67, v_69, r_71, r_73, r_75, r_77, at_79, h_46, h_48, h_50, h_52, h_56, h_58, h_60, h_62, h_64, h_66, h_68, h_70, h_72, h_74, h_76, h_78⟩ := gF_o1 hG k_a0
    refine va_get (D := D) (ci := 8) (v := .int v_53) (C := RX9) (T := TX9) (N := 18) hx hb hts in9 hown hK (va_one at_79) 0 rfl rfl 4 (by decide) (hts (.fieldLink RX9 29 "RiverModel" "isBuilt" "Z") (List.mem_of_getElem? (i := 3) rfl)) (fun _ h9 => h9) rfl dX9_count_61 ?_
    refine lv_if_eq (tgt := 77) hx hb dX9_count_64 (by decide) (fun c_80 => ?_) (fun c_80 => ?_)
    · skip
      have c_80 : v_53.toInt = 0 := q_eq c_80
      refine lv_iconst (v := 0) hx hb dX9_count_77 (by decide) ?_
      exact ty_iret hx hb hr hlk hG hS True.intro dX9_count_78
    · skip
      have c_80 : v_53.toInt ≠ 0 := q_ne c_80
      refine lv_aload_n hx hb dX9_count_67 rfl (lv_at hl 0 rfl) ?_
      refine va_get (D := D) (ci := 8) (v := .ref r_47) (C := RX9) (T := TX9) (N := 18) hx hb hts in9 hown hK (va_one at_79) 0 rfl rfl 1 (by decide) (hts (.fieldLink RX9 19 "RiverModel" "model" "LRiverModel$Model;") (List.mem_of_getElem? (i := 4) rfl)) (fun _ h9 => h9) rfl dX9_count_68 ?_
      obtain ⟨r_81, r_83, r_85, v_87, v_88, v_89, at_91, h_82, h_84, h_86, h_90⟩ := gF_o3 hG h_48
      refine va_get (D := D) (ci := 3) (v := .int v_87) (C := RX4) (T := TX4) (N := 6) hx hb hts in4 hown hK (va_one at_91) 0 rfl rfl 3 (by decide) (hts (.fieldLink RX9 124 "RiverModel$Model" "many" "I") (List.mem_of_getElem? (i := 5) rfl)) (fun _ h9 => h9) rfl dX9_count_71 ?_
      refine lv_goto (tgt := 78) hx hb dX9_count_74 (by decide) ?_
      refine lv_pc (pc2 := 78) rfl ?_
      exact ty_iret hx hb hr hlk hG hS True.intro dX9_count_78
  by_cases k_92 : a1.toInt = 2
  · refine lv_tableIn (tgt := 79) hx hb dX9_count_1 (by rw [k_92]; decide) (by rw [k_92]; decide) (by rw [k_92]; rfl) (by decide) ?_
    refine lv_aload_n hx hb dX9_count_79 rfl (lv_at hl 0 rfl) ?_
    obtain ⟨r_93, r_95, r_97, r_99, v_101, v_102, r_103, r_105, r_107, r_109, r_111, r_113, r_115, v_117, r_119, r_121, r_123, r_125, at_127, h_94, h_96, h_98, h_100, h_104, h_106, h_108, h_110, h_112, h_114, h_116, h_118, h_120, h_122, h_124, h_126⟩ := gF_o1 hG k_a0
    refine va_get (D := D) (ci := 8) (v := .int v_101) (C := RX9) (T := TX9) (N := 18) hx hb hts in9 hown hK (va_one at_127) 0 rfl rfl 4 (by decide) (hts (.fieldLink RX9 29 "RiverModel" "isBuilt" "Z") (List.mem_of_getElem? (i := 3) rfl)) (fun _ h9 => h9) rfl dX9_count_80 ?_
    refine lv_if_eq (tgt := 96) hx hb dX9_count_83 (by decide) (fun c_128 => ?_) (fun c_128 => ?_)
    · skip
      have c_128 : v_101.toInt = 0 := q_eq c_128
      refine lv_iconst (v := 0) hx hb dX9_count_96 (by decide) ?_
      exact ty_iret hx hb hr hlk hG hS True.intro dX9_count_97
    · skip
      have c_128 : v_101.toInt ≠ 0 := q_ne c_128
      refine lv_aload_n hx hb dX9_count_86 rfl (lv_at hl 0 rfl) ?_
      refine va_get (D := D) (ci := 8) (v := .ref r_95) (C := RX9) (T := TX9) (N := 18) hx hb hts in9 hown hK (va_one at_127) 0 rfl rfl 1 (by decide) (hts (.fieldLink RX9 19 "RiverModel" "model" "LRiverModel$Model;") (List.mem_of_getElem? (i := 4) rfl)) (fun _ h9 => h9) rfl dX9_count_87 ?_
      refine lv_pc (pc2 := 90) rfl ?_
      obtain ⟨r_129, r_131, r_133, v_135, v_136, v_137, at_139, h_130, h_132, h_134, h_138⟩ := gF_o3 hG h_96
      refine va_get (D := D) (ci := 3) (v := .int v_136) (C := RX4) (T := TX4) (N := 6) hx hb hts in4 hown hK (va_one at_139) 0 rfl rfl 4 (by decide) (hts (.fieldLink RX9 114 "RiverModel$Model" "stores" "I") (List.mem_of_getElem? (i := 6) rfl)) (fun _ h9 => h9) rfl dX9_count_90 ?_
      refine lv_goto (tgt := 97) hx hb dX9_count_93 (by decide) ?_
      exact ty_iret hx hb hr hlk hG hS True.intro dX9_count_97
  by_cases k_140 : a1.toInt = 3
  · refine lv_tableIn (tgt := 98) hx hb dX9_count_1 (by rw [k_140]; decide) (by rw [k_140]; decide) (by rw [k_140]; rfl) (by decide) ?_
    refine lv_aload_n hx hb dX9_count_98 rfl (lv_at hl 0 rfl) ?_
    obtain ⟨r_141, r_143, r_145, r_147, v_149, v_150, r_151, r_153, r_155, r_157, r_159, r_161, r_163, v_165, r_167, r_169, r_171, r_173, at_175, h_142, h_144, h_146, h_148, h_152, h_154, h_156, h_158, h_160, h_162, h_164, h_166, h_168, h_170, h_172, h_174⟩ := gF_o1 hG k_a0
    refine va_get (D := D) (ci := 8) (v := .int v_149) (C := RX9) (T := TX9) (N := 18) hx hb hts in9 hown hK (va_one at_175) 0 rfl rfl 4 (by decide) (hts (.fieldLink RX9 29 "RiverModel" "isBuilt" "Z") (List.mem_of_getElem? (i := 3) rfl)) (fun _ h9 => h9) rfl dX9_count_99 ?_
    refine lv_if_eq (tgt := 115) hx hb dX9_count_102 (by decide) (fun c_176 => ?_) (fun c_176 => ?_)
    · skip
      have c_176 : v_149.toInt = 0 := q_eq c_176
      refine lv_iconst (v := 0) hx hb dX9_count_115 (by decide) ?_
      exact ty_iret hx hb hr hlk hG hS True.intro dX9_count_116
    · skip
      have c_176 : v_149.toInt ≠ 0 := q_ne c_176
      refine lv_pc (pc2 := 105) rfl ?_
      refine lv_aload_n hx hb dX9_count_105 rfl (lv_at hl 0 rfl) ?_
      refine va_get (D := D) (ci := 8) (v := .ref r_143) (C := RX9) (T := TX9) (N := 18) hx hb hts in9 hown hK (va_one at_175) 0 rfl rfl 1 (by decide) (hts (.fieldLink RX9 19 "RiverModel" "model" "LRiverModel$Model;") (List.mem_of_getElem? (i := 4) rfl)) (fun _ h9 => h9) rfl dX9_count_106 ?_
      obtain ⟨r_177, r_179, r_181, v_183, v_184, v_185, at_187, h_178, h_180, h_182, h_186⟩ := gF_o3 hG h_144
      refine va_get (D := D) (ci := 3) (v := .int v_185) (C := RX4) (T := TX4) (N := 6) hx hb hts in4 hown hK (va_one at_187) 0 rfl rfl 5 (by decide) (hts (.fieldLink RX9 333 "RiverModel$Model" "gates" "I") (List.mem_of_getElem? (i := 7) rfl)) (fun _ h9 => h9) rfl dX9_count_109 ?_
      refine lv_goto (tgt := 116) hx hb dX9_count_112 (by decide) ?_
      exact ty_iret hx hb hr hlk hG hS True.intro dX9_count_116
  by_cases k_188 : a1.toInt = 4
  · refine lv_tableIn (tgt := 117) hx hb dX9_count_1 (by rw [k_188]; decide) (by rw [k_188]; decide) (by rw [k_188]; rfl) (by decide) ?_
    refine lv_aload_n hx hb dX9_count_117 rfl (lv_at hl 0 rfl) ?_
    obtain ⟨r_189, r_191, r_193, r_195, v_197, v_198, r_199, r_201, r_203, r_205, r_207, r_209, r_211, v_213, r_215, r_217, r_219, r_221, at_223, h_190, h_192, h_194, h_196, h_200, h_202, h_204, h_206, h_208, h_210, h_212, h_214, h_216, h_218, h_220, h_222⟩ := gF_o1 hG k_a0
    refine va_get (D := D) (ci := 8) (v := .ref r_205) (C := RX9) (T := TX9) (N := 18) hx hb hts in9 hown hK (va_one at_223) 0 rfl rfl 9 (by decide) (hts (.fieldLink RX9 53 "RiverModel" "now" "LRiverModel$Course;") (List.mem_of_getElem? (i := 8) rfl)) (fun _ h9 => h9) rfl dX9_count_118 ?_
    obtain ⟨r_224, r_226, r_228, r_230, v_232, v_233, v_234, v_235, at_237, h_225, h_227, h_229, h_231, h_236⟩ := gF_o5 hG h_206
    refine va_get (D := D) (ci := 0) (v := .int v_235) (C := RX0) (T := TX0) (N := 8) hx hb hts in0 hown hK (va_one at_237) 0 rfl rfl 7 (by decide) (hts (.fieldLink RX9 144 "RiverModel$Course" "hours" "I") (List.mem_of_getElem? (i := 9) rfl)) (fun _ h9 => h9) rfl dX9_count_121 ?_
    refine lv_pc (pc2 := 124) rfl ?_
    exact ty_iret hx hb hr hlk hG hS True.intro dX9_count_124
  by_cases k_238 : a1.toInt = 5
  · refine lv_tableIn (tgt := 125) hx hb dX9_count_1 (by rw [k_238]; decide) (by rw [k_238]; decide) (by rw [k_238]; rfl) (by decide) ?_
    refine lv_aload_n hx hb dX9_count_125 rfl (lv_at hl 0 rfl) ?_
    obtain ⟨r_239, r_241, r_243, r_245, v_247, v_248, r_249, r_251, r_253, r_255, r_257, r_259, r_261, v_263, r_265, r_267, r_269, r_271, at_273, h_240, h_242, h_244, h_246, h_250, h_252, h_254, h_256, h_258, h_260, h_262, h_264, h_266, h_268, h_270, h_272⟩ := gF_o1 hG k_a0
    refine va_get (D := D) (ci := 8) (v := .ref r_267) (C := RX9) (T := TX9) (N := 18) hx hb hts in9 hown hK (va_one at_273) 0 rfl rfl 15 (by decide) (hts (.fieldLink RX9 81 "RiverModel" "knobs" "LRiverModel$Knobs;") (List.mem_of_getElem? (i := 10) rfl)) (fun _ h9 => h9) rfl dX9_count_126 ?_
    obtain ⟨r_274, r_276, r_278, r_280, r_282, at_284, h_275, h_277, h_279, h_281, h_283⟩ := gF_o7 hG h_268
    refine ty_calli ((W.runV (As := []) (rest := []) ⟨hx, hb, hml, hown, hts⟩ (s_X3_setMany l D t cI cL cC gC gE G gW gA r_267 h_268) (cwV 0 hts gu_X9_count_X3_setMany_336 rfl rfl rfl (by decide +kernel) ⟨Nat.le_of_ble_eq_true rfl, Nat.le_of_ble_eq_true rfl⟩) (tP_V hG hE at_284 rfl) rfl rfl hl.1 rfl (lv_room (Nat.le_of_ble_eq_true rfl)) dX9_count_129 ⟨Nat.le_of_ble_eq_true rfl, Nat.le_of_ble_eq_true rfl⟩)) hS (fun _ h => h) (fun r_285 H locs hp_286 hG hS o_287 => ?_)
    have at_273 := va_at.keptC at_273 o_287 k_a0 rfl
    have at_284 := va_at.keptC at_284 o_287 h_268 rfl
    exact ty_iret hx hb hr hlk hG hS True.intro dX9_count_132
  by_cases k_288 : a1.toInt = 6
  · refine lv_tableIn (tgt := 133) hx hb dX9_count_1 (by rw [k_288]; decide) (by rw [k_288]; decide) (by rw [k_288]; rfl) (by decide) ?_
    refine lv_aload_n hx hb dX9_count_133 rfl (lv_at hl 0 rfl) ?_
    obtain ⟨r_289, r_291, r_293, r_295, v_297, v_298, r_299, r_301, r_303, r_305, r_307, r_309, r_311, v_313, r_315, r_317, r_319, r_321, at_323, h_290, h_292, h_294, h_296, h_300, h_302, h_304, h_306, h_308, h_310, h_312, h_314, h_316, h_318, h_320, h_322⟩ := gF_o1 hG k_a0
    refine va_get (D := D) (ci := 8) (v := .ref r_315) (C := RX9) (T := TX9) (N := 18) hx hb hts in9 hown hK (va_one at_323) 0 rfl rfl 14 (by decide) (hts (.fieldLink RX9 74 "RiverModel" "gauges" "LRiverModel$Gauges;") (List.mem_of_getElem? (i := 15) rfl)) (fun _ h9 => h9) rfl dX9_count_134 ?_
    obtain ⟨r_324, r_326, r_328, at_330, h_325, h_327, h_329⟩ := gF_o6 hG h_316
    refine ty_calli ((W.runV (As := []) (rest := []) ⟨hx, hb, hml, hown, hts⟩ (s_X1_setMany l D t cI cL cC gC gE G gW gA r_315 h_316) (cwV 0 hts gu_X9_count_X1_setMany_339 rfl rfl rfl (by decide +kernel) ⟨Nat.le_of_ble_eq_true rfl, Nat.le_of_ble_eq_true rfl⟩) (tP_V hG hE at_330 rfl) rfl rfl hl.1 rfl (lv_room (Nat.le_of_ble_eq_true rfl)) dX9_count_137 ⟨Nat.le_of_ble_eq_true rfl, Nat.le_of_ble_eq_true rfl⟩)) hS (fun _ h => h) (fun r_331 H locs hp_332 hG hS o_333 => ?_)
    have at_323 := va_at.keptC at_323 o_333 k_a0 rfl
    have at_330 := va_at.keptC at_330 o_333 h_316 rfl
    refine lv_pc (pc2 := 140) rfl ?_
    exact ty_iret hx hb hr hlk hG hS True.intro dX9_count_140
  by_cases k_334 : a1.toInt = 7
  · refine lv_tableIn (tgt := 141) hx hb dX9_count_1 (by rw [k_334]; decide) (by rw [k_334]; decide) (by rw [k_334]; rfl) (by decide) ?_
    refine lv_aload_n hx hb dX9_count_141 rfl (lv_at hl 0 rfl) ?_
    obtain ⟨r_335, r_337, r_339, r_341, v_343, v_344, r_345, r_347, r_349, r_351, r_353, r_355, r_357, v_359, r_361, r_363, r_365, r_367, at_369, h_336, h_338, h_340, h_342, h_346, h_348, h_350, h_352, h_354, h_356, h_358, h_360, h_362, h_364, h_366, h_368⟩ := gF_o1 hG k_a0
    refine va_get (D := D) (ci := 8) (v := .ref r_361) (C := RX9) (T := TX9) (N := 18) hx hb hts in9 hown hK (va_one at_369) 0 rfl rfl 14 (by decide) (hts (.fieldLink RX9 74 "RiverModel" "gauges" "LRiverModel$Gauges;") (List.mem_of_getElem? (i := 15) rfl)) (fun _ h9 => h9) rfl dX9_count_142 ?_
    obtain ⟨r_370, r_372, r_374, at_376, h_371, h_373, h_375⟩ := gF_o6 hG h_362
    refine ty_calli ((W.runV (As := []) (rest := []) ⟨hx, hb, hml, hown, hts⟩ (s_X1_seenMany l D t cI cL cC gC gE G gW gA r_361 h_362) (cwV 0 hts gu_X9_count_X1_seenMany_340 rfl rfl rfl (by decide +kernel) ⟨Nat.le_of_ble_eq_true rfl, Nat.le_of_ble_eq_true rfl⟩) (tP_V hG hE at_376 rfl) rfl rfl hl.1 rfl (lv_room (Nat.le_of_ble_eq_true rfl)) dX9_count_145 ⟨Nat.le_of_ble_eq_true rfl, Nat.le_of_ble_eq_true rfl⟩)) hS (fun _ h => h) (fun r_377 H locs hp_378 hG hS o_379 => ?_)
    have at_369 := va_at.keptC at_369 o_379 k_a0 rfl
    have at_376 := va_at.keptC at_376 o_379 h_362 rfl
    exact ty_iret hx hb hr hlk hG hS True.intro dX9_count_148
  by_cases k_380 : a1.toInt = 8
  · refine lv_tableIn (tgt := 149) hx hb dX9_count_1 (by rw [k_380]; decide) (by rw [k_380]; decide) (by rw [k_380]; rfl) (by decide) ?_
    refine lv_aload_n hx hb dX9_count_149 rfl (lv_at hl 0 rfl) ?_
    obtain ⟨r_381, r_383, r_385, r_387, v_389, v_390, r_391, r_393, r_395, r_397, r_399, r_401, r_403, v_405, r_407, r_409, r_411, r_413, at_415, h_382, h_384, h_386, h_388, h_392, h_394, h_396, h_398, h_400, h_402, h_404, h_406, h_408, h_410, h_412, h_414⟩ := gF_o1 hG k_a0
    refine va_get (D := D) (ci := 8) (v := .int v_405) (C := RX9) (T := TX9) (N := 18) hx hb hts in9 hown hK (va_one at_415) 0 rfl rfl 13 (by decide) (hts (.fieldLink RX9 67 "RiverModel" "keptMany" "I") (List.mem_of_getElem? (i := 23) rfl)) (fun _ h9 => h9) rfl dX9_count_150 ?_
    exact ty_iret hx hb hr hlk hG hS True.intro dX9_count_153
  refine lv_tableOut (tgt := 154) hx hb dX9_count_1 (by omega) (by decide) ?_
  refine lv_pc (pc2 := 154) rfl ?_
  refine lv_iconst (v := (-1)) hx hb dX9_count_154 (by decide) ?_
  exact ty_iret hx hb hr hlk hG hS True.intro dX9_count_155

def uX9_fault : List Cond := .code yX9_fault cX9_fault 1 (some .int) :: ([.fieldLink RX9 10 "RiverModel" "text" "LRiverModel$Text;", .fieldLink RX9 23 "RiverModel" "draft" "LRiverModel$Model;", .methodLink RX9 110 yX7_readInto, .instanceMethod yX7_readInto, .selects RX7 yX7_readInto yX7_readInto, .initialized RX7, .code yX7_readInto cX7_readInto 4 (some .int), .methodLink RX7 25 yX4_empty, .instanceMethod yX4_empty, .selects RX4 yX4_empty yX4_empty, .initialized RX4, .fieldLink RX7 22 "RiverModel$Text" "at" "I", .fieldLink RX7 18 "RiverModel$Text" "length" "I", .methodLink RX7 30 yX7_readItem, .instanceMethod yX7_readItem, .selects RX7 yX7_readItem yX7_readItem, .fieldLink RX7 15 "RiverModel$Text" "row" "[I", .methodLink RX7 34 yX4_mayFollow, .instanceMethod yX4_mayFollow, .selects RX4 yX4_mayFollow yX4_mayFollow, .methodLink RX7 38 yX4_add, .instanceMethod yX4_add, .selects RX4 yX4_add yX4_add, .code yX4_empty cX4_empty 1 none, .fieldLink RX4 21 "RiverModel$Model" "many" "I", .fieldLink RX4 25 "RiverModel$Model" "stores" "I", .fieldLink RX4 28 "RiverModel$Model" "gates" "I", .fieldLink RX4 15 "RiverModel$Model" "storeItems" "[I", .methodLink RX4 31 yJ7_fill_53178, .static yJ7_fill_53178, .initialized RJ7, .fieldLink RX4 18 "RiverModel$Model" "gateItems" "[I", .code yJ7_fill_53178 cJ7_fill_53178 4 none, .code yX7_readItem cX7_readItem 5 (some .boolean), .methodLink RX7 42 yJ7_fill_53178, .methodLink RX7 48 yX7_nextByte, .instanceMethod yX7_nextByte, .selects RX7 yX7_nextByte yX7_nextByte, .methodLink RX7 52 yX2_namesOf, .static yX2_namesOf, .initialized RX2, .methodLink RX7 62 yX2_numbersOf, .static yX2_numbersOf, .methodLink RX7 65 yX7_readNumber, .instanceMethod yX7_readNumber, .selects RX7 yX7_readNumber yX7_readNumber, .methodLink RX7 58 yX7_readName, .instanceMethod yX7_readName, .selects RX7 yX7_readName yX7_readName, .code yX7_nextByte cX7_nextByte 1 (some .int), .fieldLink RX7 9 "RiverModel$Text" "bytes" "[I", .code yX2_namesOf cX2_namesOf 1 (some .int), .code yX2_numbersOf cX2_numbersOf 1 (some .int), .code yX7_readNumber cX7_readNumber 4 (some .boolean), .methodLink RX7 71 yX7_isAtFigure, .instanceMethod yX7_isAtFigure, .selects RX7 yX7_isAtFigure yX7_isAtFigure, .code yX7_isAtFigure cX7_isAtFigure 1 (some .boolean), .initialized RX9, .static yX9_isOutside, .code yX9_isOutside cX9_isOutside 3 (some .boolean), .code yX7_readName cX7_readName 3 (some .boolean), .static yX9_isNoStore, .code yX9_isNoStore cX9_isNoStore 1 (some .boolean), .code yX4_mayFollow cX4_mayFollow 2 (some .boolean), .methodLink RX4 62 yX4_areNumbersAsTold, .static yX4_areNumbersAsTold, .methodLink RX4 69 yX4_areNamesAhead, .instanceMethod yX4_areNamesAhead, .selects RX4 yX4_areNamesAhead yX4_areNamesAhead, .methodLink RX4 66 yX4_hasStore, .instanceMethod yX4_hasStore, .selects RX4 yX4_hasStore yX4_hasStore, .code yX4_areNumbersAsTold cX4_areNumbersAsTold 1 (some .boolean), .methodLink RX4 77 yX2_areNumbersAsTold, .static yX2_areNumbersAsTold, .code yX2_areNumbersAsTold cX2_areNumbersAsTold 4 (some .boolean), .methodLink RX2 10 yX2_isUpTo, .static yX2_isUpTo, .constant RX2 9 (1000000), .code yX2_isUpTo cX2_isUpTo 2 (some .boolean), .code yX4_areNamesAhead cX4_areNamesAhead 5 (some .boolean), .methodLink RX4 82 yX4_isStoreAhead, .instanceMethod yX4_isStoreAhead, .selects RX4 yX4_isStoreAhead yX4_isStoreAhead, .code yX4_isStoreAhead cX4_isStoreAhead 3 (some .boolean), .code yX4_hasStore cX4_hasStore 2 (some .boolean), .code yX4_add cX4_add 2 none, .methodLink RX4 55 yX4_put, .instanceMethod yX4_put, .selects RX4 yX4_put yX4_put, .code yX4_put cX4_put 4 none, .methodLink RX4 51 yX4_putCell, .instanceMethod yX4_putCell, .selects RX4 yX4_putCell yX4_putCell, .code yX4_putCell cX4_putCell 4 none, .static yX9_isNoItem, .fieldLink RX4 9 "RiverModel$Model" "cells" "[I", .code yX9_isNoItem cX9_isNoItem 1 (some .boolean)] ++ wsX90 ++ wsX70 ++ wsX40)
set_option maxRecDepth 20000 in
theorem gu_X9_fault_X7_readInto_110 : GoodIn uX9_fault (wsV RX9 110 RX7 yX7_readInto uX7_readInto) := goodIn_r _ [3, 4, 5, 6, 7, 8, 9, 10, 11, 12, 13, 14, 15, 16, 6, 17, 18, 19, 20, 21, 22, 23, 24, 25, 26, 27, 28, 29, 30, 31, 32, 33, 34, 35, 36, 37, 38, 39, 40, 41, 42, 43, 44, 45, 46, 47, 48, 49, 50, 51, 52, 53, 54, 55, 56, 57, 58, 59, 60, 61, 62, 63, 64, 65, 66, 67, 68, 69, 70, 71, 72, 73, 74, 75, 76, 77, 78, 79, 80, 81, 82, 83, 84, 85, 86, 87, 88, 89, 90, 91, 92, 93, 94, 95, 96, 97, 98, 99, 118, 119, 120, 121, 122, 123, 124, 125, 126, 127] rfl (by decide +kernel)
set_option maxHeartbeats 4000000 in
set_option maxRecDepth 100000 in
theorem s_X9_fault (l : Launch) (D : va_G) (t : Nat → Nat) (cI cL cC : ClassId) (gC : Int32) (gE : Int32) (G : Nat) (gW : Nat → Int32) (gA : Nat → Int32) (a0 : Nat) (k_a0 : t a0 = 1) : tM l yX9_fault uX9_fault 5 112 D (gF cI cL cC gC gE G gW gA) (gF cI cL cC gC gE G gW gA) t cI cL cC [.ref a0] wrTM (pI (fun r => True)) := by
  refine tM.ofW (cc := cX9_fault) (maxL := 1) (ret := (some .int)) (by decide) rfl (Nat.le_of_ble_eq_true rfl) ?_
  intro p e s m below meth c hx hb hr hml hown hts hlk H locs hG hK hE hS ls hl
  have hl : lv_has ls 1 [(0, .ref a0)] := hl
  have in9 : ∀ w ∈ wsX90, w ∈ uX9_fault := fun w h => List.mem_cons_of_mem _ (List.mem_append_left _ (List.mem_append_left _ (List.mem_append_right _ h)))
  refine lv_aload_n hx hb dX9_fault_0 rfl (lv_at hl 0 rfl) ?_
  obtain ⟨r_1, r_3, r_5, r_7, v_9, v_10, r_11, r_13, r_15, r_17, r_19, r_21, r_23, v_25, r_27, r_29, r_31, r_33, at_35, h_2, h_4, h_6, h_8, h_12, h_14, h_16, h_18, h_20, h_22, h_24, h_26, h_28, h_30, h_32, h_34⟩ := gF_o1 hG k_a0
  refine va_get (D := D) (ci := 8) (v := .ref r_1) (C := RX9) (T := TX9) (N := 18) hx hb hts in9 hown hK (va_one at_35) 0 rfl rfl 0 (by decide) (hts (.fieldLink RX9 10 "RiverModel" "text" "LRiverModel$Text;") (List.mem_of_getElem? (i := 1) rfl)) (fun _ h9 => h9) rfl dX9_fault_1 ?_
  refine lv_aload_n hx hb dX9_fault_4 rfl (lv_at hl 0 rfl) ?_
  refine va_get (D := D) (ci := 8) (v := .ref r_5) (C := RX9) (T := TX9) (N := 18) hx hb hts in9 hown hK (va_one at_35) 0 rfl rfl 2 (by decide) (hts (.fieldLink RX9 23 "RiverModel" "draft" "LRiverModel$Model;") (List.mem_of_getElem? (i := 2) rfl)) (fun _ h9 => h9) rfl dX9_fault_5 ?_
  obtain ⟨r_36, r_38, v_40, at_42, h_37, h_39, h_41⟩ := gF_o2 hG h_2
  refine ty_calli ((W.runV (As := [.ref r_5]) (rest := []) ⟨hx, hb, hml, hown, hts⟩ (s_X7_readInto l D t cI cL cC gC gE G gW gA r_1 r_5 h_2 h_6) (cwV 1 hts gu_X9_fault_X7_readInto_110 rfl rfl rfl (by decide +kernel) ⟨Nat.le_of_ble_eq_true rfl, Nat.le_of_ble_eq_true rfl⟩) (tP_V hG hE at_42 rfl) rfl rfl hl.1 rfl (lv_room (Nat.le_of_ble_eq_true rfl)) dX9_fault_8 ⟨Nat.le_of_ble_eq_true rfl, Nat.le_of_ble_eq_true rfl⟩)) hS (fun _ h => h) (fun r_43 H locs hp_44 hG hS o_45 => ?_)
  have at_35 := va_at.keptC at_35 o_45 k_a0 rfl
  exact ty_iret hx hb hr hlk hG hS True.intro dX9_fault_11

def uX9_build : List Cond := .code yX9_build cX9_build 1 (some .int) :: ([.fieldLink RX9 10 "RiverModel" "text" "LRiverModel$Text;", .fieldLink RX9 23 "RiverModel" "draft" "LRiverModel$Model;", .methodLink RX9 110 yX7_readInto, .instanceMethod yX7_readInto, .selects RX7 yX7_readInto yX7_readInto, .initialized RX7, .fieldLink RX9 114 "RiverModel$Model" "stores" "I", .fieldLink RX9 74 "RiverModel" "gauges" "LRiverModel$Gauges;", .methodLink RX9 117 yX1_unsetAll, .instanceMethod yX1_unsetAll, .selects RX1 yX1_unsetAll yX1_unsetAll, .initialized RX1, .fieldLink RX9 81 "RiverModel" "knobs" "LRiverModel$Knobs;", .methodLink RX9 120 yX3_unsetAll, .instanceMethod yX3_unsetAll, .selects RX3 yX3_unsetAll yX3_unsetAll, .initialized RX3, .methodLink RX9 121 yX9_draftBecomesModel, .instanceMethod yX9_draftBecomesModel, .selects RX9 yX9_draftBecomesModel yX9_draftBecomesModel, .initialized RX9, .fieldLink RX9 19 "RiverModel" "model" "LRiverModel$Model;", .fieldLink RX9 124 "RiverModel$Model" "many" "I", .code yX7_readInto cX7_readInto 4 (some .int), .methodLink RX7 25 yX4_empty, .instanceMethod yX4_empty, .selects RX4 yX4_empty yX4_empty, .initialized RX4, .fieldLink RX7 22 "RiverModel$Text" "at" "I", .fieldLink RX7 18 "RiverModel$Text" "length" "I", .methodLink RX7 30 yX7_readItem, .instanceMethod yX7_readItem, .selects RX7 yX7_readItem yX7_readItem, .fieldLink RX7 15 "RiverModel$Text" "row" "[I", .methodLink RX7 34 yX4_mayFollow, .instanceMethod yX4_mayFollow, .selects RX4 yX4_mayFollow yX4_mayFollow, .methodLink RX7 38 yX4_add, .instanceMethod yX4_add, .selects RX4 yX4_add yX4_add, .code yX4_empty cX4_empty 1 none, .fieldLink RX4 21 "RiverModel$Model" "many" "I", .fieldLink RX4 25 "RiverModel$Model" "stores" "I", .fieldLink RX4 28 "RiverModel$Model" "gates" "I", .fieldLink RX4 15 "RiverModel$Model" "storeItems" "[I", .methodLink RX4 31 yJ7_fill_53178, .static yJ7_fill_53178, .initialized RJ7, .fieldLink RX4 18 "RiverModel$Model" "gateItems" "[I", .code yJ7_fill_53178 cJ7_fill_53178 4 none, .code yX7_readItem cX7_readItem 5 (some .boolean), .methodLink RX7 42 yJ7_fill_53178, .methodLink RX7 48 yX7_nextByte, .instanceMethod yX7_nextByte, .selects RX7 yX7_nextByte yX7_nextByte, .methodLink RX7 52 yX2_namesOf, .static yX2_namesOf, .initialized RX2, .methodLink RX7 62 yX2_numbersOf, .static yX2_numbersOf, .methodLink RX7 65 yX7_readNumber, .instanceMethod yX7_readNumber, .selects RX7 yX7_readNumber yX7_readNumber, .methodLink RX7 58 yX7_readName, .instanceMethod yX7_readName, .selects RX7 yX7_readName yX7_readName, .code yX7_nextByte cX7_nextByte 1 (some .int), .fieldLink RX7 9 "RiverModel$Text" "bytes" "[I", .code yX2_namesOf cX2_namesOf 1 (some .int), .code yX2_numbersOf cX2_numbersOf 1 (some .int), .code yX7_readNumber cX7_readNumber 4 (some .boolean), .methodLink RX7 71 yX7_isAtFigure, .instanceMethod yX7_isAtFigure, .selects RX7 yX7_isAtFigure yX7_isAtFigure, .code yX7_isAtFigure cX7_isAtFigure 1 (some .boolean), .static yX9_isOutside, .code yX9_isOutside cX9_isOutside 3 (some .boolean), .code yX7_readName cX7_readName 3 (some .boolean), .static yX9_isNoStore, .code yX9_isNoStore cX9_isNoStore 1 (some .boolean), .code yX4_mayFollow cX4_mayFollow 2 (some .boolean), .methodLink RX4 62 yX4_areNumbersAsTold, .static yX4_areNumbersAsTold, .methodLink RX4 69 yX4_areNamesAhead, .instanceMethod yX4_areNamesAhead, .selects RX4 yX4_areNamesAhead yX4_areNamesAhead, .methodLink RX4 66 yX4_hasStore, .instanceMethod yX4_hasStore, .selects RX4 yX4_hasStore yX4_hasStore, .code yX4_areNumbersAsTold cX4_areNumbersAsTold 1 (some .boolean), .methodLink RX4 77 yX2_areNumbersAsTold, .static yX2_areNumbersAsTold, .code yX2_areNumbersAsTold cX2_areNumbersAsTold 4 (some .boolean), .methodLink RX2 10 yX2_isUpTo, .static yX2_isUpTo, .constant RX2 9 (1000000), .code yX2_isUpTo cX2_isUpTo 2 (some .boolean), .code yX4_areNamesAhead cX4_areNamesAhead 5 (some .boolean), .methodLink RX4 82 yX4_isStoreAhead, .instanceMethod yX4_isStoreAhead, .selects RX4 yX4_isStoreAhead yX4_isStoreAhead, .code yX4_isStoreAhead cX4_isStoreAhead 3 (some .boolean), .code yX4_hasStore cX4_hasStore 2 (some .boolean), .code yX4_add cX4_add 2 none, .methodLink RX4 55 yX4_put, .instanceMethod yX4_put, .selects RX4 yX4_put yX4_put, .code yX4_put cX4_put 4 none, .methodLink RX4 51 yX4_putCell, .instanceMethod yX4_putCell, .selects RX4 yX4_putCell yX4_putCell, .code yX4_putCell cX4_putCell 4 none, .static yX9_isNoItem, .fieldLink RX4 9 "RiverModel$Model" "cells" "[I", .code yX9_isNoItem cX9_isNoItem 1 (some .boolean), .code yX1_unsetAll cX1_unsetAll 1 none, .fieldLink RX1 9 "RiverModel$Gauges" "whats" "[I", .methodLink RX1 25 yJ7_fill_53178, .fieldLink RX1 18 "RiverModel$Gauges" "seen" "[I", .code yX3_unsetAll cX3_unsetAll 1 none, .fieldLink RX3 24 "RiverModel$Knobs" "manys" "[I", .methodLink RX3 27 yJ7_fill_53178, .code yX9_draftBecomesModel cX9_draftBecomesModel 3 none, .fieldLink RX9 29 "RiverModel" "isBuilt" "Z", .fieldLink RX9 33 "RiverModel" "isOtherLaid" "Z", .fieldLink RX9 67 "RiverModel" "keptMany" "I", .fieldLink RX9 53 "RiverModel" "now" "LRiverModel$Course;", .methodLink RX9 147 yX0_begin, .instanceMethod yX0_begin, .selects RX0 yX0_begin yX0_begin, .initialized RX0, .fieldLink RX9 46 "RiverModel" "startsB" "[I", .methodLink RX9 347 yX4_startOf, .instanceMethod yX4_startOf, .selects RX4 yX4_startOf yX4_startOf, .code yX0_begin cX0_begin 3 none, .fieldLink RX0 15 "RiverModel$Course" "moved" "[J", .methodLink RX0 45 yJ7_fill_d0a16, .static yJ7_fill_d0a16, .fieldLink RX0 18 "RiverModel$Course" "openings" "[I", .methodLink RX0 51 yJ7_fill_53178, .fieldLink RX0 22 "RiverModel$Course" "due" "[J", .fieldLink RX0 25 "RiverModel$Course" "rained" "J", .fieldLink RX0 29 "RiverModel$Course" "air" "J", .fieldLink RX0 32 "RiverModel$Course" "sea" "J", .fieldLink RX0 35 "RiverModel$Course" "hours" "I", .fieldLink RX0 9 "RiverModel$Course" "held" "[J", .methodLink RX0 39 yX4_startOf, .code yJ7_fill_d0a16 cJ7_fill_d0a16 5 none, .code yX4_startOf cX4_startOf 2 (some .int), .methodLink RX4 73 yX4_cell, .instanceMethod yX4_cell, .selects RX4 yX4_cell yX4_cell, .code yX4_cell cX4_cell 3 (some .int)] ++ wsX90 ++ wsX40 ++ wsX70 ++ wsX10 ++ wsX30 ++ wsX00)
set_option maxRecDepth 20000 in
theorem gu_X9_build_X7_readInto_110 : GoodIn uX9_build (wsV RX9 110 RX7 yX7_readInto uX7_readInto) := goodIn_r _ [3, 4, 5, 6, 24, 25, 26, 27, 28, 29, 30, 31, 32, 33, 6, 34, 35, 36, 37, 38, 39, 40, 41, 42, 43, 44, 45, 46, 47, 48, 49, 50, 51, 52, 53, 54, 55, 56, 57, 58, 59, 60, 61, 62, 63, 64, 65, 66, 67, 68, 69, 70, 71, 72, 73, 74, 75, 21, 76, 77, 78, 79, 80, 81, 82, 83, 84, 85, 86, 87, 88, 89, 90, 91, 92, 93, 94, 95, 96, 97, 98, 99, 100, 101, 102, 103, 104, 105, 106, 107, 108, 109, 110, 111, 112, 113, 114, 115, 179, 180, 181, 182, 173, 174, 175, 176, 177, 178] rfl (by decide +kernel)
set_option maxRecDepth 20000 in
theorem gu_X9_build_X1_unsetAll_117 : GoodIn uX9_build (wsV RX9 117 RX1 yX1_unsetAll uX1_unsetAll) := goodIn_r _ [9, 10, 11, 12, 116, 117, 118, 47, 48, 119, 50, 183, 184, 185, 186] rfl (by decide +kernel)
set_option maxRecDepth 20000 in
theorem gu_X9_build_X3_unsetAll_120 : GoodIn uX9_build (wsV RX9 120 RX3 yX3_unsetAll uX3_unsetAll) := goodIn_r _ [14, 15, 16, 17, 120, 121, 122, 47, 48, 50, 187, 188, 189, 190, 191] rfl (by decide +kernel)
set_option maxRecDepth 20000 in
theorem gu_X9_build_X9_draftBecomesModel_121 : GoodIn uX9_build (wsV RX9 121 RX9 yX9_draftBecomesModel uX9_draftBecomesModel) := goodIn_r _ [18, 19, 20, 21, 123, 22, 2, 124, 125, 126, 127, 128, 129, 130, 131, 132, 133, 134, 135, 28, 136, 137, 138, 139, 48, 140, 141, 47, 142, 143, 144, 145, 146, 147, 148, 149, 50, 150, 87, 88, 89, 45, 151, 152, 153, 103, 154, 114, 155, 156, 157, 158, 159, 160, 161, 162, 163, 164, 165, 166, 167, 168, 169, 170, 171, 172, 192, 193, 194, 195, 196, 197, 198, 199, 173, 174, 175, 176, 177, 178] rfl (by decide +kernel)
set_option maxHeartbeats 4000000 in
set_option maxRecDepth 100000 in
theorem s_X9_build (l : Launch) (D : va_G) (t : Nat → Nat) (cI cL cC : ClassId) (gC : Int32) (gE : Int32) (G : Nat) (gW : Nat → Int32) (gA : Nat → Int32) (a0 : Nat) (k_a0 : t a0 = 1) : tM l yX9_build uX9_build 5 112 D (gF cI cL cC gC gE G gW gA) (gF cI cL cC gC gE G gW gA) t cI cL cC [.ref a0] wrAll (pI (fun r => True)) := by
  refine tM.ofW (cc := cX9_build) (maxL := 1) (ret := (some .int)) (by decide) rfl (Nat.le_of_ble_eq_true rfl) ?_
  intro p e s m below meth c hx hb hr hml hown hts hlk H locs hG hK hE hS ls hl
  have hl : lv_has ls 1 [(0, .ref a0)] := hl
  have in9 : ∀ w ∈ wsX90, w ∈ uX9_build := fun w h => List.mem_cons_of_mem _ (List.mem_append_left _ (List.mem_append_left _ (List.mem_append_left _ (List.mem_append_left _ (List.mem_append_left _ (List.mem_append_right _ h))))))
  have in4 : ∀ w ∈ wsX40, w ∈ uX9_build := fun w h => List.mem_cons_of_mem _ (List.mem_append_left _ (List.mem_append_left _ (List.mem_append_left _ (List.mem_append_left _ (List.mem_append_right _ h)))))
  refine lv_aload_n hx hb dX9_build_0 rfl (lv_at hl 0 rfl) ?_
  obtain ⟨r_1, r_3, r_5, r_7, v_9, v_10, r_11, r_13, r_15, r_17, r_19, r_21, r_23, v_25, r_27, r_29, r_31, r_33, at_35, h_2, h_4, h_6, h_8, h_12, h_14, h_16, h_18, h_20, h_22, h_24, h_26, h_28, h_30, h_32, h_34⟩ := gF_o1 hG k_a0
  refine va_get (D := D) (ci := 8) (v := .ref r_1) (C := RX9) (T := TX9) (N := 18) hx hb hts in9 hown hK (va_one at_35) 0 rfl rfl 0 (by decide) (hts (.fieldLink RX9 10 "RiverModel" "text" "LRiverModel$Text;") (List.mem_of_getElem? (i := 1) rfl)) (fun _ h9 => h9) rfl dX9_build_1 ?_
  refine lv_aload_n hx hb dX9_build_4 rfl (lv_at hl 0 rfl) ?_
  refine va_get (D := D) (ci := 8) (v := .ref r_5) (C := RX9) (T := TX9) (N := 18) hx hb hts in9 hown hK (va_one at_35) 0 rfl rfl 2 (by decide) (hts (.fieldLink RX9 23 "RiverModel" "draft" "LRiverModel$Model;") (List.mem_of_getElem? (i := 2) rfl)) (fun _ h9 => h9) rfl dX9_build_5 ?_
  obtain ⟨r_36, r_38, v_40, at_42, h_37, h_39, h_41⟩ := gF_o2 hG h_2
  refine ty_calli ((W.runV (As := [.ref r_5]) (rest := []) ⟨hx, hb, hml, hown, hts⟩ (s_X7_readInto l D t cI cL cC gC gE G gW gA r_1 r_5 h_2 h_6) (cwV 1 hts gu_X9_build_X7_readInto_110 rfl rfl rfl (by decide +kernel) ⟨Nat.le_of_ble_eq_true rfl, Nat.le_of_ble_eq_true rfl⟩) (tP_V hG hE at_42 rfl) rfl rfl hl.1 rfl (lv_room (Nat.le_of_ble_eq_true rfl)) dX9_build_8 ⟨Nat.le_of_ble_eq_true rfl, Nat.le_of_ble_eq_true rfl⟩)) hS (wrL_sub (by decide)) (fun r_43 H locs hp_44 hG hS o_45 => ?_)
  have at_35 := va_at.keptC at_35 o_45 k_a0 rfl
  refine lv_bipush (v := (-4)) hx hb dX9_build_11 (by decide) ?_
  refine lv_icmp_ne (tgt := 26) hx hb dX9_build_13 (by decide) (fun c_46 => ?_) (fun c_46 => ?_)
  · skip
    have c_46 : r_43.toInt ≠ (-4) := q_ne c_46
    refine lv_pc (pc2 := 26) rfl ?_
    refine lv_bipush (v := (-2)) hx hb dX9_build_26 (by decide) ?_
    exact ty_iret hx hb hr hlk hG hS True.intro dX9_build_28
  · skip
    have c_46 : r_43.toInt = (-4) := q_eq c_46
    refine lv_aload_n hx hb dX9_build_16 rfl (lv_at hl 0 rfl) ?_
    refine va_get (D := D) (ci := 8) (v := .ref r_5) (C := RX9) (T := TX9) (N := 18) hx hb hts in9 hown hK (va_one at_35) 0 rfl rfl 2 (by decide) (hts (.fieldLink RX9 23 "RiverModel" "draft" "LRiverModel$Model;") (List.mem_of_getElem? (i := 2) rfl)) (fun _ h9 => h9) rfl dX9_build_17 ?_
    obtain ⟨r_47, r_49, r_51, v_53, v_54, v_55, at_57, h_48, h_50, h_52, h_56⟩ := gF_o3 hG h_6
    refine va_get (D := D) (ci := 3) (v := .int v_54) (C := RX4) (T := TX4) (N := 6) hx hb hts in4 hown hK (va_one at_57) 0 rfl rfl 4 (by decide) (hts (.fieldLink RX9 114 "RiverModel$Model" "stores" "I") (List.mem_of_getElem? (i := 7) rfl)) (fun _ h9 => h9) rfl dX9_build_20 ?_
    refine lv_if_ne (tgt := 29) hx hb dX9_build_23 (by decide) (fun c_58 => ?_) (fun c_58 => ?_)
    · skip
      have c_58 : v_54.toInt ≠ 0 := q_ne c_58
      refine lv_aload_n hx hb dX9_build_29 rfl (lv_at hl 0 rfl) ?_
      refine va_get (D := D) (ci := 8) (v := .ref r_27) (C := RX9) (T := TX9) (N := 18) hx hb hts in9 hown hK (va_one at_35) 0 rfl rfl 14 (by decide) (hts (.fieldLink RX9 74 "RiverModel" "gauges" "LRiverModel$Gauges;") (List.mem_of_getElem? (i := 8) rfl)) (fun _ h9 => h9) rfl dX9_build_30 ?_
      refine lv_pc (pc2 := 33) rfl ?_
      obtain ⟨r_59, r_61, r_63, at_65, h_60, h_62, h_64⟩ := gF_o6 hG h_28
      refine ty_callv ((W.runV (As := []) (rest := []) ⟨hx, hb, hml, hown, hts⟩ (s_X1_unsetAll l D t cI cL cC gC gE G gW gA r_27 h_28) (cwV 0 hts gu_X9_build_X1_unsetAll_117 rfl rfl rfl (by decide +kernel) ⟨Nat.le_of_ble_eq_true rfl, Nat.le_of_ble_eq_true rfl⟩) (tP_V hG hE at_65 rfl) rfl rfl hl.1 rfl (lv_room (Nat.le_of_ble_eq_true rfl)) dX9_build_33 ⟨Nat.le_of_ble_eq_true rfl, Nat.le_of_ble_eq_true rfl⟩)) hS (wrL_sub (by decide)) (fun H locs hp_67 hG hS o_68 => ?_)
      have at_35 := va_at.keptC at_35 o_68 k_a0 rfl
      have at_57 := va_at.keptC at_57 o_68 h_6 rfl
      refine lv_aload_n hx hb dX9_build_36 rfl (lv_at hl 0 rfl) ?_
      refine va_get (D := D) (ci := 8) (v := .ref r_29) (C := RX9) (T := TX9) (N := 18) hx hb hts in9 hown hK (va_one at_35) 0 rfl rfl 15 (by decide) (hts (.fieldLink RX9 81 "RiverModel" "knobs" "LRiverModel$Knobs;") (List.mem_of_getElem? (i := 13) rfl)) (fun _ h9 => h9) rfl dX9_build_37 ?_
      obtain ⟨r_69, r_71, r_73, r_75, r_77, at_79, h_70, h_72, h_74, h_76, h_78⟩ := gF_o7 hG h_30
      refine ty_callv ((W.runV (As := []) (rest := []) ⟨hx, hb, hml, hown, hts⟩ (s_X3_unsetAll l D t cI cL cC gC gE G gW gA r_29 h_30) (cwV 0 hts gu_X9_build_X3_unsetAll_120 rfl rfl rfl (by decide +kernel) ⟨Nat.le_of_ble_eq_true rfl, Nat.le_of_ble_eq_true rfl⟩) (tP_V hG hE at_79 rfl) rfl rfl hl.1 rfl (lv_room (Nat.le_of_ble_eq_true rfl)) dX9_build_40 ⟨Nat.le_of_ble_eq_true rfl, Nat.le_of_ble_eq_true rfl⟩)) hS (wrL_sub (by decide)) (fun H locs hp_81 hG hS o_82 => ?_)
      have at_35 := va_at.keptC at_35 o_82 k_a0 rfl
      have at_57 := va_at.keptC at_57 o_82 h_6 rfl
      have at_79 := va_at.keptC at_79 o_82 h_30 rfl
      refine lv_aload_n hx hb dX9_build_43 rfl (lv_at hl 0 rfl) ?_
      refine ty_callv ((W.runV (As := []) (rest := []) ⟨hx, hb, hml, hown, hts⟩ (s_X9_draftBecomesModel l D t cI cL cC gC gE G gW gA a0 k_a0) (cwV 0 hts gu_X9_build_X9_draftBecomesModel_121 rfl rfl rfl (by decide +kernel) ⟨Nat.le_of_ble_eq_true rfl, Nat.le_of_ble_eq_true rfl⟩) (tP_V hG hE at_35 rfl) rfl rfl hl.1 rfl (lv_room (Nat.le_of_ble_eq_true rfl)) dX9_build_44 ⟨Nat.le_of_ble_eq_true rfl, Nat.le_of_ble_eq_true rfl⟩)) hS (fun _ h => h) (fun H locs hp_84 hG hS o_85 => ?_)
      refine lv_aload_n hx hb dX9_build_47 rfl (lv_at hl 0 rfl) ?_
      obtain ⟨r_86, r_88, r_90, r_92, v_94, v_95, r_96, r_98, r_100, r_102, r_104, r_106, r_108, v_110, r_112, r_114, r_116, r_118, at_120, h_87, h_89, h_91, h_93, h_97, h_99, h_101, h_103, h_105, h_107, h_109, h_111, h_113, h_115, h_117, h_119⟩ := gF_o1 hG k_a0
      refine va_get (D := D) (ci := 8) (v := .ref r_88) (C := RX9) (T := TX9) (N := 18) hx hb hts in9 hown hK (va_one at_120) 0 rfl rfl 1 (by decide) (hts (.fieldLink RX9 19 "RiverModel" "model" "LRiverModel$Model;") (List.mem_of_getElem? (i := 22) rfl)) (fun _ h9 => h9) rfl dX9_build_48 ?_
      refine lv_pc (pc2 := 51) rfl ?_
      obtain ⟨r_121, r_123, r_125, v_127, v_128, v_129, at_131, h_122, h_124, h_126, h_130⟩ := gF_o3 hG h_89
      refine va_get (D := D) (ci := 3) (v := .int v_127) (C := RX4) (T := TX4) (N := 6) hx hb hts in4 hown hK (va_one at_131) 0 rfl rfl 3 (by decide) (hts (.fieldLink RX9 124 "RiverModel$Model" "many" "I") (List.mem_of_getElem? (i := 23) rfl)) (fun _ h9 => h9) rfl dX9_build_51 ?_
      exact ty_iret hx hb hr hlk hG hS True.intro dX9_build_54
    · skip
      have c_58 : v_54.toInt = 0 := q_eq c_58
      refine lv_bipush (v := (-2)) hx hb dX9_build_26 (by decide) ?_
      exact ty_iret hx hb hr hlk hG hS True.intro dX9_build_28
