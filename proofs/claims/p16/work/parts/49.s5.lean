theorem dX9_anew_0 : decode cX9_anew 0 = .ok (.aload_n 0, 1) := by decide +kernel
theorem dX9_anew_1 : decode cX9_anew 1 = .ok (.getfield 29, 3) := by decide +kernel
theorem dX9_anew_4 : decode cX9_anew 4 = .ok (.ifCond .ne 6, 3) := by decide +kernel
theorem dX9_anew_7 : decode cX9_anew 7 = .ok (.bipush (-2), 2) := by decide +kernel
theorem dX9_anew_9 : decode cX9_anew 9 = .ok (.ireturn, 1) := by decide +kernel
theorem dX9_anew_10 : decode cX9_anew 10 = .ok (.aload_n 0, 1) := by decide +kernel
theorem dX9_anew_11 : decode cX9_anew 11 = .ok (.getfield 53, 3) := by decide +kernel
theorem dX9_anew_14 : decode cX9_anew 14 = .ok (.getfield 144, 3) := by decide +kernel
theorem dX9_anew_17 : decode cX9_anew 17 = .ok (.istore_n 1, 1) := by decide +kernel
theorem dX9_anew_18 : decode cX9_anew 18 = .ok (.aload_n 0, 1) := by decide +kernel
theorem dX9_anew_19 : decode cX9_anew 19 = .ok (.getfield 53, 3) := by decide +kernel
theorem dX9_anew_22 : decode cX9_anew 22 = .ok (.aload_n 0, 1) := by decide +kernel
theorem dX9_anew_23 : decode cX9_anew 23 = .ok (.getfield 19, 3) := by decide +kernel
theorem dX9_anew_26 : decode cX9_anew 26 = .ok (.invokevirtual 147, 3) := by decide +kernel
theorem dX9_anew_29 : decode cX9_anew 29 = .ok (.iload_n 1, 1) := by decide +kernel
theorem dX9_anew_30 : decode cX9_anew 30 = .ok (.ireturn, 1) := by decide +kernel
theorem dX9_run_0 : decode cX9_run 0 = .ok (.iload_n 1, 1) := by decide +kernel
theorem dX9_run_1 : decode cX9_run 1 = .ok (.iconst 1, 1) := by decide +kernel
theorem dX9_run_2 : decode cX9_run 2 = .ok (.bipush 96, 2) := by decide +kernel
theorem dX9_run_4 : decode cX9_run 4 = .ok (.invokestatic 99, 3) := by decide +kernel
theorem dX9_run_7 : decode cX9_run 7 = .ok (.ifCond .eq 5, 3) := by decide +kernel
theorem dX9_run_10 : decode cX9_run 10 = .ok (.iconst (-1), 1) := by decide +kernel
theorem dX9_run_11 : decode cX9_run 11 = .ok (.ireturn, 1) := by decide +kernel
theorem dX9_run_12 : decode cX9_run 12 = .ok (.aload_n 0, 1) := by decide +kernel
theorem dX9_run_13 : decode cX9_run 13 = .ok (.getfield 29, 3) := by decide +kernel
theorem dX9_run_16 : decode cX9_run 16 = .ok (.ifCond .ne 6, 3) := by decide +kernel
theorem dX9_run_19 : decode cX9_run 19 = .ok (.bipush (-2), 2) := by decide +kernel
theorem dX9_run_21 : decode cX9_run 21 = .ok (.ireturn, 1) := by decide +kernel
theorem dX9_run_22 : decode cX9_run 22 = .ok (.aload_n 0, 1) := by decide +kernel
theorem dX9_run_23 : decode cX9_run 23 = .ok (.getfield 53, 3) := by decide +kernel
theorem dX9_run_26 : decode cX9_run 26 = .ok (.getfield 144, 3) := by decide +kernel
theorem dX9_run_29 : decode cX9_run 29 = .ok (.iload_n 1, 1) := by decide +kernel
theorem dX9_run_30 : decode cX9_run 30 = .ok (.iadd, 1) := by decide +kernel
theorem dX9_run_31 : decode cX9_run 31 = .ok (.bipush 96, 2) := by decide +kernel
theorem dX9_run_33 : decode cX9_run 33 = .ok (.if_icmp .le 6, 3) := by decide +kernel
theorem dX9_run_36 : decode cX9_run 36 = .ok (.bipush (-3), 2) := by decide +kernel
theorem dX9_run_38 : decode cX9_run 38 = .ok (.ireturn, 1) := by decide +kernel
theorem dX9_run_39 : decode cX9_run 39 = .ok (.iconst 0, 1) := by decide +kernel
theorem dX9_run_40 : decode cX9_run 40 = .ok (.istore_n 2, 1) := by decide +kernel
theorem dX9_run_41 : decode cX9_run 41 = .ok (.iload_n 2, 1) := by decide +kernel
theorem dX9_run_42 : decode cX9_run 42 = .ok (.iload_n 1, 1) := by decide +kernel
theorem dX9_run_43 : decode cX9_run 43 = .ok (.if_icmp .ge 24, 3) := by decide +kernel
theorem dX9_run_46 : decode cX9_run 46 = .ok (.aload_n 0, 1) := by decide +kernel
theorem dX9_run_47 : decode cX9_run 47 = .ok (.getfield 53, 3) := by decide +kernel
theorem dX9_run_50 : decode cX9_run 50 = .ok (.aload_n 0, 1) := by decide +kernel
theorem dX9_run_51 : decode cX9_run 51 = .ok (.getfield 19, 3) := by decide +kernel
theorem dX9_run_54 : decode cX9_run 54 = .ok (.aload_n 0, 1) := by decide +kernel
theorem dX9_run_55 : decode cX9_run 55 = .ok (.getfield 39, 3) := by decide +kernel
theorem dX9_run_58 : decode cX9_run 58 = .ok (.invokevirtual 151, 3) := by decide +kernel
theorem dX9_run_61 : decode cX9_run 61 = .ok (.iinc 2 1, 3) := by decide +kernel
theorem dX9_run_64 : decode cX9_run 64 = .ok (.goto (-23), 3) := by decide +kernel
theorem dX9_run_67 : decode cX9_run 67 = .ok (.aload_n 0, 1) := by decide +kernel
theorem dX9_run_68 : decode cX9_run 68 = .ok (.getfield 53, 3) := by decide +kernel
theorem dX9_run_71 : decode cX9_run 71 = .ok (.getfield 144, 3) := by decide +kernel
theorem dX9_run_74 : decode cX9_run 74 = .ok (.ireturn, 1) := by decide +kernel
theorem dX9_knob_0 : decode cX9_knob 0 = .ok (.iload_n 1, 1) := by decide +kernel
theorem dX9_knob_1 : decode cX9_knob 1 = .ok (.invokestatic 228, 3) := by decide +kernel
theorem dX9_knob_4 : decode cX9_knob 4 = .ok (.ifCond .ne 19, 3) := by decide +kernel
theorem dX9_knob_7 : decode cX9_knob 7 = .ok (.iload_n 2, 1) := by decide +kernel
theorem dX9_knob_8 : decode cX9_knob 8 = .ok (.invokestatic 127, 3) := by decide +kernel
theorem dX9_knob_11 : decode cX9_knob 11 = .ok (.ifCond .ne 12, 3) := by decide +kernel
theorem dX9_knob_14 : decode cX9_knob 14 = .ok (.iload_n 3, 1) := by decide +kernel
theorem dX9_knob_15 : decode cX9_knob 15 = .ok (.iconst 0, 1) := by decide +kernel
theorem dX9_knob_16 : decode cX9_knob 16 = .ok (.iconst 2, 1) := by decide +kernel
theorem dX9_knob_17 : decode cX9_knob 17 = .ok (.invokestatic 99, 3) := by decide +kernel
theorem dX9_knob_20 : decode cX9_knob 20 = .ok (.ifCond .eq 5, 3) := by decide +kernel
theorem dX9_knob_23 : decode cX9_knob 23 = .ok (.iconst (-1), 1) := by decide +kernel
theorem dX9_knob_24 : decode cX9_knob 24 = .ok (.ireturn, 1) := by decide +kernel
theorem dX9_knob_25 : decode cX9_knob 25 = .ok (.iload 4, 2) := by decide +kernel
theorem dX9_knob_27 : decode cX9_knob 27 = .ok (.iconst 0, 1) := by decide +kernel
theorem dX9_knob_28 : decode cX9_knob 28 = .ok (.ldc 231, 2) := by decide +kernel
theorem dX9_knob_30 : decode cX9_knob 30 = .ok (.invokestatic 99, 3) := by decide +kernel
theorem dX9_knob_33 : decode cX9_knob 33 = .ok (.ifCond .ne 25, 3) := by decide +kernel
theorem dX9_knob_36 : decode cX9_knob 36 = .ok (.iload 5, 2) := by decide +kernel
theorem dX9_knob_38 : decode cX9_knob 38 = .ok (.iconst 1, 1) := by decide +kernel
theorem dX9_knob_39 : decode cX9_knob 39 = .ok (.ldc 231, 2) := by decide +kernel
theorem dX9_knob_41 : decode cX9_knob 41 = .ok (.invokestatic 99, 3) := by decide +kernel
theorem dX9_knob_44 : decode cX9_knob 44 = .ok (.ifCond .ne 14, 3) := by decide +kernel
theorem dX9_knob_47 : decode cX9_knob 47 = .ok (.iload 6, 2) := by decide +kernel
theorem dX9_knob_49 : decode cX9_knob 49 = .ok (.iconst 0, 1) := by decide +kernel
theorem dX9_knob_50 : decode cX9_knob 50 = .ok (.bipush 16, 2) := by decide +kernel
theorem dX9_knob_52 : decode cX9_knob 52 = .ok (.invokestatic 99, 3) := by decide +kernel
theorem dX9_knob_55 : decode cX9_knob 55 = .ok (.ifCond .eq 5, 3) := by decide +kernel
theorem dX9_knob_58 : decode cX9_knob 58 = .ok (.iconst (-1), 1) := by decide +kernel
theorem dX9_knob_59 : decode cX9_knob 59 = .ok (.ireturn, 1) := by decide +kernel
theorem dX9_knob_60 : decode cX9_knob 60 = .ok (.aload_n 0, 1) := by decide +kernel
theorem dX9_knob_61 : decode cX9_knob 61 = .ok (.iload_n 2, 1) := by decide +kernel
theorem dX9_knob_62 : decode cX9_knob 62 = .ok (.invokevirtual 131, 3) := by decide +kernel
theorem dX9_knob_65 : decode cX9_knob 65 = .ok (.ifCond .ne 15, 3) := by decide +kernel
theorem dX9_knob_68 : decode cX9_knob 68 = .ok (.aload_n 0, 1) := by decide +kernel
theorem dX9_knob_69 : decode cX9_knob 69 = .ok (.getfield 19, 3) := by decide +kernel
theorem dX9_knob_72 : decode cX9_knob 72 = .ok (.iload_n 2, 1) := by decide +kernel
theorem dX9_knob_73 : decode cX9_knob 73 = .ok (.iload_n 3, 1) := by decide +kernel
theorem dX9_knob_74 : decode cX9_knob 74 = .ok (.invokevirtual 232, 3) := by decide +kernel
theorem dX9_knob_77 : decode cX9_knob 77 = .ok (.ifCond .ne 6, 3) := by decide +kernel
theorem dX9_knob_80 : decode cX9_knob 80 = .ok (.bipush (-2), 2) := by decide +kernel
theorem dX9_knob_82 : decode cX9_knob 82 = .ok (.ireturn, 1) := by decide +kernel
theorem dX9_knob_83 : decode cX9_knob 83 = .ok (.aload_n 0, 1) := by decide +kernel
theorem dX9_knob_84 : decode cX9_knob 84 = .ok (.getfield 81, 3) := by decide +kernel
theorem dX9_knob_87 : decode cX9_knob 87 = .ok (.iload_n 1, 1) := by decide +kernel
theorem dX9_knob_88 : decode cX9_knob 88 = .ok (.iload_n 2, 1) := by decide +kernel
theorem dX9_knob_89 : decode cX9_knob 89 = .ok (.iload_n 3, 1) := by decide +kernel
theorem dX9_knob_90 : decode cX9_knob 90 = .ok (.iload 4, 2) := by decide +kernel
theorem dX9_knob_92 : decode cX9_knob 92 = .ok (.iload 5, 2) := by decide +kernel
theorem dX9_knob_94 : decode cX9_knob 94 = .ok (.iload 6, 2) := by decide +kernel
theorem dX9_knob_96 : decode cX9_knob 96 = .ok (.invokevirtual 236, 3) := by decide +kernel
theorem dX9_knob_99 : decode cX9_knob 99 = .ok (.iconst 0, 1) := by decide +kernel
theorem dX9_knob_100 : decode cX9_knob 100 = .ok (.ireturn, 1) := by decide +kernel
theorem dX9_chance_0 : decode cX9_chance 0 = .ok (.iload_n 1, 1) := by decide +kernel
theorem dX9_chance_1 : decode cX9_chance 1 = .ok (.invokestatic 205, 3) := by decide +kernel
theorem dX9_chance_4 : decode cX9_chance 4 = .ok (.ifCond .ne 13, 3) := by decide +kernel
theorem dX9_chance_7 : decode cX9_chance 7 = .ok (.iload_n 2, 1) := by decide +kernel
theorem dX9_chance_8 : decode cX9_chance 8 = .ok (.iconst 1, 1) := by decide +kernel
theorem dX9_chance_9 : decode cX9_chance 9 = .ok (.bipush 24, 2) := by decide +kernel
theorem dX9_chance_11 : decode cX9_chance 11 = .ok (.invokestatic 99, 3) := by decide +kernel
theorem dX9_chance_14 : decode cX9_chance 14 = .ok (.ifCond .eq 5, 3) := by decide +kernel
theorem dX9_chance_17 : decode cX9_chance 17 = .ok (.iconst (-1), 1) := by decide +kernel
theorem dX9_chance_18 : decode cX9_chance 18 = .ok (.ireturn, 1) := by decide +kernel
theorem dX9_chance_19 : decode cX9_chance 19 = .ok (.aload_n 0, 1) := by decide +kernel
theorem dX9_chance_20 : decode cX9_chance 20 = .ok (.iload_n 1, 1) := by decide +kernel
theorem dX9_chance_21 : decode cX9_chance 21 = .ok (.invokevirtual 212, 3) := by decide +kernel
theorem dX9_chance_24 : decode cX9_chance 24 = .ok (.ifCond .ne 11, 3) := by decide +kernel
theorem dX9_chance_27 : decode cX9_chance 27 = .ok (.aload_n 0, 1) := by decide +kernel
theorem dX9_chance_28 : decode cX9_chance 28 = .ok (.iload_n 2, 1) := by decide +kernel
theorem dX9_chance_29 : decode cX9_chance 29 = .ok (.invokevirtual 265, 3) := by decide +kernel
theorem dX9_chance_32 : decode cX9_chance 32 = .ok (.ifCond .eq 8, 3) := by decide +kernel
theorem dX9_chance_35 : decode cX9_chance 35 = .ok (.bipush (-2), 2) := by decide +kernel
theorem dX9_chance_37 : decode cX9_chance 37 = .ok (.goto 10, 3) := by decide +kernel
theorem dX9_chance_40 : decode cX9_chance 40 = .ok (.aload_n 0, 1) := by decide +kernel
theorem dX9_chance_41 : decode cX9_chance 41 = .ok (.iload_n 1, 1) := by decide +kernel
theorem dX9_chance_42 : decode cX9_chance 42 = .ok (.iload_n 2, 1) := by decide +kernel
theorem dX9_chance_43 : decode cX9_chance 43 = .ok (.lload_n 3, 1) := by decide +kernel
theorem dX9_chance_44 : decode cX9_chance 44 = .ok (.invokevirtual 268, 3) := by decide +kernel
theorem dX9_chance_47 : decode cX9_chance 47 = .ok (.ireturn, 1) := by decide +kernel
theorem dX9_warn_0 : decode cX9_warn 0 = .ok (.iload_n 1, 1) := by decide +kernel
theorem dX9_warn_1 : decode cX9_warn 1 = .ok (.invokestatic 205, 3) := by decide +kernel
theorem dX9_warn_4 : decode cX9_warn 4 = .ok (.ifCond .ne 24, 3) := by decide +kernel
theorem dX9_warn_7 : decode cX9_warn 7 = .ok (.iload_n 2, 1) := by decide +kernel
theorem dX9_warn_8 : decode cX9_warn 8 = .ok (.iconst 1, 1) := by decide +kernel
theorem dX9_warn_9 : decode cX9_warn 9 = .ok (.bipush 24, 2) := by decide +kernel
theorem dX9_warn_11 : decode cX9_warn 11 = .ok (.invokestatic 99, 3) := by decide +kernel
theorem dX9_warn_14 : decode cX9_warn 14 = .ok (.ifCond .ne 14, 3) := by decide +kernel
theorem dX9_warn_17 : decode cX9_warn 17 = .ok (.iload 5, 2) := by decide +kernel
theorem dX9_warn_19 : decode cX9_warn 19 = .ok (.iconst 0, 1) := by decide +kernel
theorem dX9_warn_20 : decode cX9_warn 20 = .ok (.bipush 100, 2) := by decide +kernel
theorem dX9_warn_22 : decode cX9_warn 22 = .ok (.invokestatic 99, 3) := by decide +kernel
theorem dX9_warn_25 : decode cX9_warn 25 = .ok (.ifCond .eq 5, 3) := by decide +kernel
theorem dX9_warn_28 : decode cX9_warn 28 = .ok (.iconst (-1), 1) := by decide +kernel
theorem dX9_warn_29 : decode cX9_warn 29 = .ok (.ireturn, 1) := by decide +kernel
theorem dX9_warn_30 : decode cX9_warn 30 = .ok (.aload_n 0, 1) := by decide +kernel
theorem dX9_warn_31 : decode cX9_warn 31 = .ok (.iload_n 1, 1) := by decide +kernel
theorem dX9_warn_32 : decode cX9_warn 32 = .ok (.invokevirtual 212, 3) := by decide +kernel
theorem dX9_warn_35 : decode cX9_warn 35 = .ok (.ifCond .ne 11, 3) := by decide +kernel
theorem dX9_warn_38 : decode cX9_warn 38 = .ok (.aload_n 0, 1) := by decide +kernel
theorem dX9_warn_39 : decode cX9_warn 39 = .ok (.iload_n 2, 1) := by decide +kernel
theorem dX9_warn_40 : decode cX9_warn 40 = .ok (.invokevirtual 265, 3) := by decide +kernel
theorem dX9_warn_43 : decode cX9_warn 43 = .ok (.ifCond .eq 6, 3) := by decide +kernel
theorem dX9_warn_46 : decode cX9_warn 46 = .ok (.bipush (-2), 2) := by decide +kernel
theorem dX9_warn_48 : decode cX9_warn 48 = .ok (.ireturn, 1) := by decide +kernel
theorem dX9_warn_49 : decode cX9_warn 49 = .ok (.aload_n 0, 1) := by decide +kernel
theorem dX9_warn_50 : decode cX9_warn 50 = .ok (.iload_n 1, 1) := by decide +kernel
theorem dX9_warn_51 : decode cX9_warn 51 = .ok (.iload_n 2, 1) := by decide +kernel
theorem dX9_warn_52 : decode cX9_warn 52 = .ok (.lload_n 3, 1) := by decide +kernel
theorem dX9_warn_53 : decode cX9_warn 53 = .ok (.invokevirtual 268, 3) := by decide +kernel
theorem dX9_warn_56 : decode cX9_warn 56 = .ok (.bipush 100, 2) := by decide +kernel
theorem dX9_warn_58 : decode cX9_warn 58 = .ok (.imul, 1) := by decide +kernel
theorem dX9_warn_59 : decode cX9_warn 59 = .ok (.iload 5, 2) := by decide +kernel
theorem dX9_warn_61 : decode cX9_warn 61 = .ok (.aload_n 0, 1) := by decide +kernel
theorem dX9_warn_62 : decode cX9_warn 62 = .ok (.getfield 88, 3) := by decide +kernel
theorem dX9_warn_65 : decode cX9_warn 65 = .ok (.invokevirtual 272, 3) := by decide +kernel
theorem dX9_warn_68 : decode cX9_warn 68 = .ok (.imul, 1) := by decide +kernel
theorem dX9_warn_69 : decode cX9_warn 69 = .ok (.if_icmp .lt 7, 3) := by decide +kernel
theorem dX9_warn_72 : decode cX9_warn 72 = .ok (.iconst 1, 1) := by decide +kernel
theorem dX9_warn_73 : decode cX9_warn 73 = .ok (.goto 4, 3) := by decide +kernel
theorem dX9_warn_76 : decode cX9_warn 76 = .ok (.iconst 0, 1) := by decide +kernel
theorem dX9_warn_77 : decode cX9_warn 77 = .ok (.istore 6, 2) := by decide +kernel
theorem dX9_warn_79 : decode cX9_warn 79 = .ok (.aload_n 0, 1) := by decide +kernel
theorem dX9_warn_80 : decode cX9_warn 80 = .ok (.iload_n 1, 1) := by decide +kernel
theorem dX9_warn_81 : decode cX9_warn 81 = .ok (.iload_n 2, 1) := by decide +kernel
theorem dX9_warn_82 : decode cX9_warn 82 = .ok (.iconst (-1), 1) := by decide +kernel
theorem dX9_warn_83 : decode cX9_warn 83 = .ok (.invokevirtual 275, 3) := by decide +kernel
theorem dX9_warn_86 : decode cX9_warn 86 = .ok (.lload_n 3, 1) := by decide +kernel
theorem dX9_warn_87 : decode cX9_warn 87 = .ok (.lcmp, 1) := by decide +kernel
theorem dX9_warn_88 : decode cX9_warn 88 = .ok (.ifCond .le 7, 3) := by decide +kernel
theorem dX9_warn_91 : decode cX9_warn 91 = .ok (.iconst 1, 1) := by decide +kernel
theorem dX9_warn_92 : decode cX9_warn 92 = .ok (.goto 4, 3) := by decide +kernel
theorem dX9_warn_95 : decode cX9_warn 95 = .ok (.iconst 0, 1) := by decide +kernel
theorem dX9_warn_96 : decode cX9_warn 96 = .ok (.istore 7, 2) := by decide +kernel
theorem dX9_warn_98 : decode cX9_warn 98 = .ok (.aload_n 0, 1) := by decide +kernel
theorem dX9_warn_99 : decode cX9_warn 99 = .ok (.getfield 88, 3) := by decide +kernel
theorem dX9_warn_102 : decode cX9_warn 102 = .ok (.iload 6, 2) := by decide +kernel
theorem dX9_warn_104 : decode cX9_warn 104 = .ok (.iload 7, 2) := by decide +kernel
theorem dX9_warn_106 : decode cX9_warn 106 = .ok (.invokevirtual 279, 3) := by decide +kernel
theorem dX9_warn_109 : decode cX9_warn 109 = .ok (.iload 6, 2) := by decide +kernel
theorem dX9_warn_111 : decode cX9_warn 111 = .ok (.ifCond .eq 7, 3) := by decide +kernel
theorem dX9_warn_114 : decode cX9_warn 114 = .ok (.iconst 1, 1) := by decide +kernel
theorem dX9_warn_115 : decode cX9_warn 115 = .ok (.goto 4, 3) := by decide +kernel
theorem dX9_warn_118 : decode cX9_warn 118 = .ok (.iconst 0, 1) := by decide +kernel
theorem dX9_warn_119 : decode cX9_warn 119 = .ok (.ireturn, 1) := by decide +kernel
theorem dX9_booked_0 : decode cX9_booked 0 = .ok (.iload_n 1, 1) := by decide +kernel
theorem dX9_booked_1 : decode cX9_booked 1 = .ok (.iconst 0, 1) := by decide +kernel
theorem dX9_booked_2 : decode cX9_booked 2 = .ok (.iconst 3, 1) := by decide +kernel
theorem dX9_booked_3 : decode cX9_booked 3 = .ok (.invokestatic 99, 3) := by decide +kernel
theorem dX9_booked_6 : decode cX9_booked 6 = .ok (.ifCond .eq 7, 3) := by decide +kernel
theorem dX9_booked_9 : decode cX9_booked 9 = .ok (.iconst (-1), 1) := by decide +kernel
theorem dX9_booked_10 : decode cX9_booked 10 = .ok (.goto 12, 3) := by decide +kernel
theorem dX9_booked_13 : decode cX9_booked 13 = .ok (.aload_n 0, 1) := by decide +kernel
theorem dX9_booked_14 : decode cX9_booked 14 = .ok (.getfield 88, 3) := by decide +kernel
theorem dX9_booked_17 : decode cX9_booked 17 = .ok (.getfield 283, 3) := by decide +kernel
theorem dX9_booked_20 : decode cX9_booked 20 = .ok (.iload_n 1, 1) := by decide +kernel
theorem dX9_booked_21 : decode cX9_booked 21 = .ok (.iaload, 1) := by decide +kernel
theorem dX9_booked_22 : decode cX9_booked 22 = .ok (.ireturn, 1) := by decide +kernel
theorem dX9_peak_0 : decode cX9_peak 0 = .ok (.iload_n 1, 1) := by decide +kernel
theorem dX9_peak_1 : decode cX9_peak 1 = .ok (.invokestatic 205, 3) := by decide +kernel
theorem dX9_peak_4 : decode cX9_peak 4 = .ok (.ifCond .ne 22, 3) := by decide +kernel
theorem dX9_peak_7 : decode cX9_peak 7 = .ok (.iload_n 2, 1) := by decide +kernel
theorem dX9_peak_8 : decode cX9_peak 8 = .ok (.iconst 1, 1) := by decide +kernel
theorem dX9_peak_9 : decode cX9_peak 9 = .ok (.bipush 24, 2) := by decide +kernel
theorem dX9_peak_11 : decode cX9_peak 11 = .ok (.invokestatic 99, 3) := by decide +kernel
theorem dX9_peak_14 : decode cX9_peak 14 = .ok (.ifCond .ne 12, 3) := by decide +kernel
theorem dX9_peak_17 : decode cX9_peak 17 = .ok (.iload_n 3, 1) := by decide +kernel
theorem dX9_peak_18 : decode cX9_peak 18 = .ok (.iconst (-1), 1) := by decide +kernel
theorem dX9_peak_19 : decode cX9_peak 19 = .ok (.iconst 3, 1) := by decide +kernel
theorem dX9_peak_20 : decode cX9_peak 20 = .ok (.invokestatic 99, 3) := by decide +kernel
theorem dX9_peak_23 : decode cX9_peak 23 = .ok (.ifCond .eq 7, 3) := by decide +kernel
theorem dX9_peak_26 : decode cX9_peak 26 = .ok (.ldc2_w 158, 3) := by decide +kernel
theorem dX9_peak_29 : decode cX9_peak 29 = .ok (.lreturn, 1) := by decide +kernel
theorem dX9_peak_30 : decode cX9_peak 30 = .ok (.aload_n 0, 1) := by decide +kernel
theorem dX9_peak_31 : decode cX9_peak 31 = .ok (.iload_n 1, 1) := by decide +kernel
theorem dX9_peak_32 : decode cX9_peak 32 = .ok (.invokevirtual 212, 3) := by decide +kernel
theorem dX9_peak_35 : decode cX9_peak 35 = .ok (.ifCond .ne 11, 3) := by decide +kernel
theorem dX9_peak_38 : decode cX9_peak 38 = .ok (.aload_n 0, 1) := by decide +kernel
theorem dX9_peak_39 : decode cX9_peak 39 = .ok (.iload_n 2, 1) := by decide +kernel
theorem dX9_peak_40 : decode cX9_peak 40 = .ok (.invokevirtual 265, 3) := by decide +kernel
theorem dX9_peak_43 : decode cX9_peak 43 = .ok (.ifCond .eq 9, 3) := by decide +kernel
theorem dX9_peak_46 : decode cX9_peak 46 = .ok (.ldc2_w 163, 3) := by decide +kernel
theorem dX9_peak_49 : decode cX9_peak 49 = .ok (.goto 10, 3) := by decide +kernel
theorem dX9_peak_52 : decode cX9_peak 52 = .ok (.aload_n 0, 1) := by decide +kernel
theorem dX9_peak_53 : decode cX9_peak 53 = .ok (.iload_n 1, 1) := by decide +kernel
theorem dX9_peak_54 : decode cX9_peak 54 = .ok (.iload_n 2, 1) := by decide +kernel
theorem dX9_peak_55 : decode cX9_peak 55 = .ok (.iload_n 3, 1) := by decide +kernel
theorem dX9_peak_56 : decode cX9_peak 56 = .ok (.invokevirtual 275, 3) := by decide +kernel
theorem dX9_peak_59 : decode cX9_peak 59 = .ok (.lreturn, 1) := by decide +kernel
theorem dX9_best_0 : decode cX9_best 0 = .ok (.iload_n 1, 1) := by decide +kernel
theorem dX9_best_1 : decode cX9_best 1 = .ok (.invokestatic 176, 3) := by decide +kernel
theorem dX9_best_4 : decode cX9_best 4 = .ok (.ifCond .ne 20, 3) := by decide +kernel
theorem dX9_best_7 : decode cX9_best 7 = .ok (.iload_n 2, 1) := by decide +kernel
theorem dX9_best_8 : decode cX9_best 8 = .ok (.iconst 1, 1) := by decide +kernel
theorem dX9_best_9 : decode cX9_best 9 = .ok (.bipush 6, 2) := by decide +kernel
theorem dX9_best_11 : decode cX9_best 11 = .ok (.invokestatic 99, 3) := by decide +kernel
theorem dX9_best_14 : decode cX9_best 14 = .ok (.ifCond .ne 10, 3) := by decide +kernel
theorem dX9_best_17 : decode cX9_best 17 = .ok (.iload_n 3, 1) := by decide +kernel
theorem dX9_best_18 : decode cX9_best 18 = .ok (.invokestatic 205, 3) := by decide +kernel
theorem dX9_best_21 : decode cX9_best 21 = .ok (.ifCond .eq 7, 3) := by decide +kernel
theorem dX9_best_24 : decode cX9_best 24 = .ok (.ldc2_w 158, 3) := by decide +kernel
theorem dX9_best_27 : decode cX9_best 27 = .ok (.lreturn, 1) := by decide +kernel
theorem dX9_best_28 : decode cX9_best 28 = .ok (.iload 4, 2) := by decide +kernel
theorem dX9_best_30 : decode cX9_best 30 = .ok (.invokestatic 155, 3) := by decide +kernel
theorem dX9_best_33 : decode cX9_best 33 = .ok (.ifCond .ne 13, 3) := by decide +kernel
theorem dX9_best_36 : decode cX9_best 36 = .ok (.iload 7, 2) := by decide +kernel
theorem dX9_best_38 : decode cX9_best 38 = .ok (.iconst (-1), 1) := by decide +kernel
theorem dX9_best_39 : decode cX9_best 39 = .ok (.iconst 3, 1) := by decide +kernel
theorem dX9_best_40 : decode cX9_best 40 = .ok (.invokestatic 99, 3) := by decide +kernel
theorem dX9_best_43 : decode cX9_best 43 = .ok (.ifCond .eq 7, 3) := by decide +kernel
theorem dX9_best_46 : decode cX9_best 46 = .ok (.ldc2_w 158, 3) := by decide +kernel
theorem dX9_best_49 : decode cX9_best 49 = .ok (.lreturn, 1) := by decide +kernel
theorem dX9_best_50 : decode cX9_best 50 = .ok (.aload_n 0, 1) := by decide +kernel
theorem dX9_best_51 : decode cX9_best 51 = .ok (.iload_n 1, 1) := by decide +kernel
theorem dX9_best_52 : decode cX9_best 52 = .ok (.invokevirtual 179, 3) := by decide +kernel
theorem dX9_best_55 : decode cX9_best 55 = .ok (.ifCond .ne 30, 3) := by decide +kernel
theorem dX9_best_58 : decode cX9_best 58 = .ok (.aload_n 0, 1) := by decide +kernel
theorem dX9_best_59 : decode cX9_best 59 = .ok (.iload_n 3, 1) := by decide +kernel
theorem dX9_best_60 : decode cX9_best 60 = .ok (.invokevirtual 212, 3) := by decide +kernel
theorem dX9_best_63 : decode cX9_best 63 = .ok (.ifCond .ne 22, 3) := by decide +kernel
theorem dX9_best_66 : decode cX9_best 66 = .ok (.aload_n 0, 1) := by decide +kernel
theorem dX9_best_67 : decode cX9_best 67 = .ok (.iload 4, 2) := by decide +kernel
theorem dX9_best_69 : decode cX9_best 69 = .ok (.invokevirtual 160, 3) := by decide +kernel
theorem dX9_best_72 : decode cX9_best 72 = .ok (.ifCond .ne 13, 3) := by decide +kernel
theorem dX9_best_75 : decode cX9_best 75 = .ok (.aload_n 0, 1) := by decide +kernel
theorem dX9_best_76 : decode cX9_best 76 = .ok (.iconst 4, 1) := by decide +kernel
theorem dX9_best_77 : decode cX9_best 77 = .ok (.iload_n 2, 1) := by decide +kernel
theorem dX9_best_78 : decode cX9_best 78 = .ok (.imul, 1) := by decide +kernel
theorem dX9_best_79 : decode cX9_best 79 = .ok (.invokevirtual 265, 3) := by decide +kernel
theorem dX9_best_82 : decode cX9_best 82 = .ok (.ifCond .eq 7, 3) := by decide +kernel
theorem dX9_best_85 : decode cX9_best 85 = .ok (.ldc2_w 163, 3) := by decide +kernel
theorem dX9_best_88 : decode cX9_best 88 = .ok (.lreturn, 1) := by decide +kernel
theorem dX9_best_89 : decode cX9_best 89 = .ok (.aload_n 0, 1) := by decide +kernel
theorem dX9_best_90 : decode cX9_best 90 = .ok (.getfield 95, 3) := by decide +kernel
theorem dX9_best_93 : decode cX9_best 93 = .ok (.iload_n 1, 1) := by decide +kernel
theorem dX9_best_94 : decode cX9_best 94 = .ok (.iload_n 2, 1) := by decide +kernel
theorem dX9_best_95 : decode cX9_best 95 = .ok (.iload_n 3, 1) := by decide +kernel
theorem dX9_best_96 : decode cX9_best 96 = .ok (.iload 4, 2) := by decide +kernel
theorem dX9_best_98 : decode cX9_best 98 = .ok (.lload 5, 2) := by decide +kernel
theorem dX9_best_100 : decode cX9_best 100 = .ok (.invokevirtual 286, 3) := by decide +kernel
theorem dX9_best_103 : decode cX9_best 103 = .ok (.aload_n 0, 1) := by decide +kernel
theorem dX9_best_104 : decode cX9_best 104 = .ok (.getfield 95, 3) := by decide +kernel
theorem dX9_best_107 : decode cX9_best 107 = .ok (.aload_n 0, 1) := by decide +kernel
theorem dX9_best_108 : decode cX9_best 108 = .ok (.getfield 19, 3) := by decide +kernel
theorem dX9_best_111 : decode cX9_best 111 = .ok (.aload_n 0, 1) := by decide +kernel
theorem dX9_best_112 : decode cX9_best 112 = .ok (.getfield 39, 3) := by decide +kernel
theorem dX9_best_115 : decode cX9_best 115 = .ok (.aload_n 0, 1) := by decide +kernel
theorem dX9_best_116 : decode cX9_best 116 = .ok (.getfield 74, 3) := by decide +kernel
theorem dX9_best_119 : decode cX9_best 119 = .ok (.aload_n 0, 1) := by decide +kernel
theorem dX9_best_120 : decode cX9_best 120 = .ok (.getfield 53, 3) := by decide +kernel
theorem dX9_best_123 : decode cX9_best 123 = .ok (.iconst 0, 1) := by decide +kernel
theorem dX9_best_124 : decode cX9_best 124 = .ok (.lconst 0, 1) := by decide +kernel
theorem dX9_best_125 : decode cX9_best 125 = .ok (.invokevirtual 290, 3) := by decide +kernel
theorem dX9_best_128 : decode cX9_best 128 = .ok (.aload_n 0, 1) := by decide +kernel
theorem dX9_best_129 : decode cX9_best 129 = .ok (.getfield 95, 3) := by decide +kernel
theorem dX9_best_132 : decode cX9_best 132 = .ok (.getfield 294, 3) := by decide +kernel
theorem dX9_best_135 : decode cX9_best 135 = .ok (.ifCond .ne 7, 3) := by decide +kernel
theorem dX9_best_138 : decode cX9_best 138 = .ok (.ldc2_w 297, 3) := by decide +kernel
theorem dX9_best_141 : decode cX9_best 141 = .ok (.lreturn, 1) := by decide +kernel
theorem dX9_best_142 : decode cX9_best 142 = .ok (.iload 7, 2) := by decide +kernel
theorem dX9_best_144 : decode cX9_best 144 = .ok (.ifCond .ge 13, 3) := by decide +kernel
theorem dX9_best_147 : decode cX9_best 147 = .ok (.aload_n 0, 1) := by decide +kernel
theorem dX9_best_148 : decode cX9_best 148 = .ok (.getfield 95, 3) := by decide +kernel
theorem dX9_best_151 : decode cX9_best 151 = .ok (.getfield 299, 3) := by decide +kernel
theorem dX9_best_154 : decode cX9_best 154 = .ok (.goto 14, 3) := by decide +kernel
theorem dX9_best_157 : decode cX9_best 157 = .ok (.aload_n 0, 1) := by decide +kernel
theorem dX9_best_158 : decode cX9_best 158 = .ok (.getfield 95, 3) := by decide +kernel
theorem dX9_best_161 : decode cX9_best 161 = .ok (.getfield 302, 3) := by decide +kernel
theorem dX9_best_164 : decode cX9_best 164 = .ok (.iload 7, 2) := by decide +kernel
theorem dX9_best_166 : decode cX9_best 166 = .ok (.iaload, 1) := by decide +kernel
theorem dX9_best_167 : decode cX9_best 167 = .ok (.i2l, 1) := by decide +kernel
theorem dX9_best_168 : decode cX9_best 168 = .ok (.lreturn, 1) := by decide +kernel
theorem dX9_swapped_0 : decode cX9_swapped 0 = .ok (.iload_n 1, 1) := by decide +kernel
theorem dX9_swapped_1 : decode cX9_swapped 1 = .ok (.invokestatic 205, 3) := by decide +kernel
theorem dX9_swapped_4 : decode cX9_swapped 4 = .ok (.ifCond .ne 22, 3) := by decide +kernel
theorem dX9_swapped_7 : decode cX9_swapped 7 = .ok (.iload_n 2, 1) := by decide +kernel
theorem dX9_swapped_8 : decode cX9_swapped 8 = .ok (.iconst 1, 1) := by decide +kernel
theorem dX9_swapped_9 : decode cX9_swapped 9 = .ok (.bipush 96, 2) := by decide +kernel
theorem dX9_swapped_11 : decode cX9_swapped 11 = .ok (.invokestatic 99, 3) := by decide +kernel
theorem dX9_swapped_14 : decode cX9_swapped 14 = .ok (.ifCond .ne 12, 3) := by decide +kernel
theorem dX9_swapped_17 : decode cX9_swapped 17 = .ok (.iload_n 3, 1) := by decide +kernel
theorem dX9_swapped_18 : decode cX9_swapped 18 = .ok (.iconst 0, 1) := by decide +kernel
theorem dX9_swapped_19 : decode cX9_swapped 19 = .ok (.iconst 1, 1) := by decide +kernel
theorem dX9_swapped_20 : decode cX9_swapped 20 = .ok (.invokestatic 99, 3) := by decide +kernel
theorem dX9_swapped_23 : decode cX9_swapped 23 = .ok (.ifCond .eq 7, 3) := by decide +kernel
theorem dX9_swapped_26 : decode cX9_swapped 26 = .ok (.ldc2_w 158, 3) := by decide +kernel
theorem dX9_swapped_29 : decode cX9_swapped 29 = .ok (.lreturn, 1) := by decide +kernel
theorem dX9_swapped_30 : decode cX9_swapped 30 = .ok (.aload_n 0, 1) := by decide +kernel
theorem dX9_swapped_31 : decode cX9_swapped 31 = .ok (.getfield 33, 3) := by decide +kernel
theorem dX9_swapped_34 : decode cX9_swapped 34 = .ok (.ifCond .eq 11, 3) := by decide +kernel
theorem dX9_swapped_37 : decode cX9_swapped 37 = .ok (.aload_n 0, 1) := by decide +kernel
theorem dX9_swapped_38 : decode cX9_swapped 38 = .ok (.iload_n 1, 1) := by decide +kernel
theorem dX9_swapped_39 : decode cX9_swapped 39 = .ok (.invokevirtual 212, 3) := by decide +kernel
theorem dX9_swapped_42 : decode cX9_swapped 42 = .ok (.ifCond .eq 7, 3) := by decide +kernel
theorem dX9_swapped_45 : decode cX9_swapped 45 = .ok (.ldc2_w 163, 3) := by decide +kernel
theorem dX9_swapped_48 : decode cX9_swapped 48 = .ok (.lreturn, 1) := by decide +kernel
theorem dX9_swapped_49 : decode cX9_swapped 49 = .ok (.aload_n 0, 1) := by decide +kernel
theorem dX9_swapped_50 : decode cX9_swapped 50 = .ok (.getfield 57, 3) := by decide +kernel
theorem dX9_swapped_53 : decode cX9_swapped 53 = .ok (.aload_n 0, 1) := by decide +kernel
theorem dX9_swapped_54 : decode cX9_swapped 54 = .ok (.getfield 19, 3) := by decide +kernel
theorem dX9_swapped_57 : decode cX9_swapped 57 = .ok (.invokevirtual 147, 3) := by decide +kernel
theorem dX9_swapped_60 : decode cX9_swapped 60 = .ok (.aload_n 0, 1) := by decide +kernel
theorem dX9_swapped_61 : decode cX9_swapped 61 = .ok (.getfield 60, 3) := by decide +kernel
theorem dX9_swapped_64 : decode cX9_swapped 64 = .ok (.aload_n 0, 1) := by decide +kernel
theorem dX9_swapped_65 : decode cX9_swapped 65 = .ok (.getfield 26, 3) := by decide +kernel
theorem dX9_swapped_68 : decode cX9_swapped 68 = .ok (.invokevirtual 147, 3) := by decide +kernel
theorem dX9_swapped_71 : decode cX9_swapped 71 = .ok (.lconst 0, 1) := by decide +kernel
theorem dX9_swapped_72 : decode cX9_swapped 72 = .ok (.lstore 4, 2) := by decide +kernel
theorem dX9_swapped_74 : decode cX9_swapped 74 = .ok (.iconst 0, 1) := by decide +kernel
theorem dX9_swapped_75 : decode cX9_swapped 75 = .ok (.istore 6, 2) := by decide +kernel
theorem dX9_swapped_77 : decode cX9_swapped 77 = .ok (.iload 6, 2) := by decide +kernel
theorem dX9_swapped_79 : decode cX9_swapped 79 = .ok (.iload_n 2, 1) := by decide +kernel
theorem dX9_swapped_80 : decode cX9_swapped 80 = .ok (.if_icmp .ge 88, 3) := by decide +kernel
theorem dX9_swapped_83 : decode cX9_swapped 83 = .ok (.aload_n 0, 1) := by decide +kernel
theorem dX9_swapped_84 : decode cX9_swapped 84 = .ok (.getfield 57, 3) := by decide +kernel
theorem dX9_swapped_87 : decode cX9_swapped 87 = .ok (.aload_n 0, 1) := by decide +kernel
theorem dX9_swapped_88 : decode cX9_swapped 88 = .ok (.getfield 19, 3) := by decide +kernel
theorem dX9_swapped_91 : decode cX9_swapped 91 = .ok (.aload_n 0, 1) := by decide +kernel
theorem dX9_swapped_92 : decode cX9_swapped 92 = .ok (.getfield 39, 3) := by decide +kernel
theorem dX9_swapped_95 : decode cX9_swapped 95 = .ok (.invokevirtual 151, 3) := by decide +kernel
theorem dX9_swapped_98 : decode cX9_swapped 98 = .ok (.aload_n 0, 1) := by decide +kernel
theorem dX9_swapped_99 : decode cX9_swapped 99 = .ok (.getfield 60, 3) := by decide +kernel
theorem dX9_swapped_102 : decode cX9_swapped 102 = .ok (.aload_n 0, 1) := by decide +kernel
theorem dX9_swapped_103 : decode cX9_swapped 103 = .ok (.getfield 26, 3) := by decide +kernel
theorem dX9_swapped_106 : decode cX9_swapped 106 = .ok (.aload_n 0, 1) := by decide +kernel
theorem dX9_swapped_107 : decode cX9_swapped 107 = .ok (.getfield 39, 3) := by decide +kernel
theorem dX9_swapped_110 : decode cX9_swapped 110 = .ok (.invokevirtual 151, 3) := by decide +kernel
theorem dX9_swapped_113 : decode cX9_swapped 113 = .ok (.aload_n 0, 1) := by decide +kernel
theorem dX9_swapped_114 : decode cX9_swapped 114 = .ok (.getfield 74, 3) := by decide +kernel
theorem dX9_swapped_117 : decode cX9_swapped 117 = .ok (.aload_n 0, 1) := by decide +kernel
theorem dX9_swapped_118 : decode cX9_swapped 118 = .ok (.getfield 60, 3) := by decide +kernel
theorem dX9_swapped_121 : decode cX9_swapped 121 = .ok (.iload_n 1, 1) := by decide +kernel
theorem dX9_swapped_122 : decode cX9_swapped 122 = .ok (.invokevirtual 215, 3) := by decide +kernel
theorem dX9_swapped_125 : decode cX9_swapped 125 = .ok (.aload_n 0, 1) := by decide +kernel
theorem dX9_swapped_126 : decode cX9_swapped 126 = .ok (.getfield 74, 3) := by decide +kernel
theorem dX9_swapped_129 : decode cX9_swapped 129 = .ok (.aload_n 0, 1) := by decide +kernel
theorem dX9_swapped_130 : decode cX9_swapped 130 = .ok (.getfield 57, 3) := by decide +kernel
theorem dX9_swapped_133 : decode cX9_swapped 133 = .ok (.iload_n 1, 1) := by decide +kernel
theorem dX9_swapped_134 : decode cX9_swapped 134 = .ok (.invokevirtual 215, 3) := by decide +kernel
theorem dX9_swapped_137 : decode cX9_swapped 137 = .ok (.lsub, 1) := by decide +kernel
theorem dX9_swapped_138 : decode cX9_swapped 138 = .ok (.lstore 7, 2) := by decide +kernel
theorem dX9_swapped_140 : decode cX9_swapped 140 = .ok (.iload_n 3, 1) := by decide +kernel
theorem dX9_swapped_141 : decode cX9_swapped 141 = .ok (.ifCond .ne 14, 3) := by decide +kernel
theorem dX9_swapped_144 : decode cX9_swapped 144 = .ok (.lload 7, 2) := by decide +kernel
theorem dX9_swapped_146 : decode cX9_swapped 146 = .ok (.lconst 0, 1) := by decide +kernel
theorem dX9_swapped_147 : decode cX9_swapped 147 = .ok (.lcmp, 1) := by decide +kernel
theorem dX9_swapped_148 : decode cX9_swapped 148 = .ok (.ifCond .eq 7, 3) := by decide +kernel
theorem dX9_swapped_151 : decode cX9_swapped 151 = .ok (.iload 6, 2) := by decide +kernel
theorem dX9_swapped_153 : decode cX9_swapped 153 = .ok (.i2l, 1) := by decide +kernel
theorem dX9_swapped_154 : decode cX9_swapped 154 = .ok (.lreturn, 1) := by decide +kernel
theorem dX9_swapped_155 : decode cX9_swapped 155 = .ok (.lload 4, 2) := by decide +kernel
theorem dX9_swapped_157 : decode cX9_swapped 157 = .ok (.lload 7, 2) := by decide +kernel
theorem dX9_swapped_159 : decode cX9_swapped 159 = .ok (.ladd, 1) := by decide +kernel
theorem dX9_swapped_160 : decode cX9_swapped 160 = .ok (.lstore 4, 2) := by decide +kernel
theorem dX9_swapped_162 : decode cX9_swapped 162 = .ok (.iinc 6 1, 3) := by decide +kernel
theorem dX9_swapped_165 : decode cX9_swapped 165 = .ok (.goto (-88), 3) := by decide +kernel
theorem dX9_swapped_168 : decode cX9_swapped 168 = .ok (.iload_n 3, 1) := by decide +kernel
theorem dX9_swapped_169 : decode cX9_swapped 169 = .ok (.ifCond .ne 9, 3) := by decide +kernel
theorem dX9_swapped_172 : decode cX9_swapped 172 = .ok (.ldc2_w 297, 3) := by decide +kernel
theorem dX9_swapped_175 : decode cX9_swapped 175 = .ok (.goto 5, 3) := by decide +kernel
theorem dX9_swapped_178 : decode cX9_swapped 178 = .ok (.lload 4, 2) := by decide +kernel
theorem dX9_swapped_180 : decode cX9_swapped 180 = .ok (.lreturn, 1) := by decide +kernel
theorem dX9_startB_0 : decode cX9_startB 0 = .ok (.iload_n 1, 1) := by decide +kernel
theorem dX9_startB_1 : decode cX9_startB 1 = .ok (.invokestatic 155, 3) := by decide +kernel
theorem dX9_startB_4 : decode cX9_startB 4 = .ok (.ifCond .ne 13, 3) := by decide +kernel
theorem dX9_startB_7 : decode cX9_startB 7 = .ok (.iload_n 2, 1) := by decide +kernel
theorem dX9_startB_8 : decode cX9_startB 8 = .ok (.iconst 0, 1) := by decide +kernel
theorem dX9_startB_9 : decode cX9_startB 9 = .ok (.ldc 231, 2) := by decide +kernel
theorem dX9_startB_11 : decode cX9_startB 11 = .ok (.invokestatic 99, 3) := by decide +kernel
theorem dX9_startB_14 : decode cX9_startB 14 = .ok (.ifCond .eq 5, 3) := by decide +kernel
theorem dX9_startB_17 : decode cX9_startB 17 = .ok (.iconst (-1), 1) := by decide +kernel
theorem dX9_startB_18 : decode cX9_startB 18 = .ok (.ireturn, 1) := by decide +kernel
theorem dX9_startB_19 : decode cX9_startB 19 = .ok (.aload_n 0, 1) := by decide +kernel
theorem dX9_startB_20 : decode cX9_startB 20 = .ok (.iload_n 1, 1) := by decide +kernel
theorem dX9_startB_21 : decode cX9_startB 21 = .ok (.invokevirtual 160, 3) := by decide +kernel
theorem dX9_startB_24 : decode cX9_startB 24 = .ok (.ifCond .eq 6, 3) := by decide +kernel
theorem dX9_startB_27 : decode cX9_startB 27 = .ok (.bipush (-2), 2) := by decide +kernel
theorem dX9_startB_29 : decode cX9_startB 29 = .ok (.ireturn, 1) := by decide +kernel
theorem dX9_startB_30 : decode cX9_startB 30 = .ok (.aload_n 0, 1) := by decide +kernel
theorem dX9_startB_31 : decode cX9_startB 31 = .ok (.getfield 46, 3) := by decide +kernel
theorem dX9_startB_34 : decode cX9_startB 34 = .ok (.iload_n 1, 1) := by decide +kernel
theorem dX9_startB_35 : decode cX9_startB 35 = .ok (.iaload, 1) := by decide +kernel
theorem dX9_startB_36 : decode cX9_startB 36 = .ok (.istore_n 3, 1) := by decide +kernel
theorem dX9_startB_37 : decode cX9_startB 37 = .ok (.aload_n 0, 1) := by decide +kernel
theorem dX9_startB_38 : decode cX9_startB 38 = .ok (.getfield 46, 3) := by decide +kernel
theorem dX9_startB_41 : decode cX9_startB 41 = .ok (.iload_n 1, 1) := by decide +kernel
theorem dX9_startB_42 : decode cX9_startB 42 = .ok (.iload_n 2, 1) := by decide +kernel
theorem dX9_startB_43 : decode cX9_startB 43 = .ok (.iastore, 1) := by decide +kernel
theorem dX9_startB_44 : decode cX9_startB 44 = .ok (.iload_n 3, 1) := by decide +kernel
theorem dX9_startB_45 : decode cX9_startB 45 = .ok (.ireturn, 1) := by decide +kernel
theorem dX9_blame_0 : decode cX9_blame 0 = .ok (.iload_n 1, 1) := by decide +kernel
theorem dX9_blame_1 : decode cX9_blame 1 = .ok (.invokestatic 205, 3) := by decide +kernel
theorem dX9_blame_4 : decode cX9_blame 4 = .ok (.ifCond .ne 22, 3) := by decide +kernel
theorem dX9_blame_7 : decode cX9_blame 7 = .ok (.iload_n 2, 1) := by decide +kernel
theorem dX9_blame_8 : decode cX9_blame 8 = .ok (.iconst 0, 1) := by decide +kernel
theorem dX9_blame_9 : decode cX9_blame 9 = .ok (.bipush 95, 2) := by decide +kernel
theorem dX9_blame_11 : decode cX9_blame 11 = .ok (.invokestatic 99, 3) := by decide +kernel
theorem dX9_blame_14 : decode cX9_blame 14 = .ok (.ifCond .ne 12, 3) := by decide +kernel
theorem dX9_blame_17 : decode cX9_blame 17 = .ok (.iload_n 3, 1) := by decide +kernel
theorem dX9_blame_18 : decode cX9_blame 18 = .ok (.iconst 0, 1) := by decide +kernel
theorem dX9_blame_19 : decode cX9_blame 19 = .ok (.iconst 3, 1) := by decide +kernel
theorem dX9_blame_20 : decode cX9_blame 20 = .ok (.invokestatic 99, 3) := by decide +kernel
theorem dX9_blame_23 : decode cX9_blame 23 = .ok (.ifCond .eq 7, 3) := by decide +kernel
theorem dX9_blame_26 : decode cX9_blame 26 = .ok (.ldc2_w 323, 3) := by decide +kernel
theorem dX9_blame_29 : decode cX9_blame 29 = .ok (.lreturn, 1) := by decide +kernel
theorem dX9_blame_30 : decode cX9_blame 30 = .ok (.aload_n 0, 1) := by decide +kernel
theorem dX9_blame_31 : decode cX9_blame 31 = .ok (.iload_n 1, 1) := by decide +kernel
theorem dX9_blame_32 : decode cX9_blame 32 = .ok (.invokevirtual 212, 3) := by decide +kernel
theorem dX9_blame_35 : decode cX9_blame 35 = .ok (.ifCond .eq 7, 3) := by decide +kernel
theorem dX9_blame_38 : decode cX9_blame 38 = .ok (.ldc2_w 325, 3) := by decide +kernel
theorem dX9_blame_41 : decode cX9_blame 41 = .ok (.lreturn, 1) := by decide +kernel
theorem dX9_blame_42 : decode cX9_blame 42 = .ok (.iload_n 3, 1) := by decide +kernel
theorem dX9_blame_43 : decode cX9_blame 43 = .ok (.iconst 3, 1) := by decide +kernel
theorem dX9_blame_44 : decode cX9_blame 44 = .ok (.if_icmp .ne 19, 3) := by decide +kernel
theorem dX9_blame_47 : decode cX9_blame 47 = .ok (.aload_n 0, 1) := by decide +kernel
theorem dX9_blame_48 : decode cX9_blame 48 = .ok (.iconst 3, 1) := by decide +kernel
theorem dX9_blame_49 : decode cX9_blame 49 = .ok (.iload_n 1, 1) := by decide +kernel
theorem dX9_blame_50 : decode cX9_blame 50 = .ok (.iload_n 2, 1) := by decide +kernel
theorem dX9_blame_51 : decode cX9_blame 51 = .ok (.invokevirtual 327, 3) := by decide +kernel
theorem dX9_blame_54 : decode cX9_blame 54 = .ok (.aload_n 0, 1) := by decide +kernel
theorem dX9_blame_55 : decode cX9_blame 55 = .ok (.iconst 0, 1) := by decide +kernel
theorem dX9_blame_56 : decode cX9_blame 56 = .ok (.iload_n 1, 1) := by decide +kernel
theorem dX9_blame_57 : decode cX9_blame 57 = .ok (.iload_n 2, 1) := by decide +kernel
theorem dX9_blame_58 : decode cX9_blame 58 = .ok (.invokevirtual 327, 3) := by decide +kernel
theorem dX9_blame_61 : decode cX9_blame 61 = .ok (.lsub, 1) := by decide +kernel
theorem dX9_blame_62 : decode cX9_blame 62 = .ok (.lreturn, 1) := by decide +kernel
theorem dX9_blame_63 : decode cX9_blame 63 = .ok (.aload_n 0, 1) := by decide +kernel
theorem dX9_blame_64 : decode cX9_blame 64 = .ok (.iload_n 3, 1) := by decide +kernel
theorem dX9_blame_65 : decode cX9_blame 65 = .ok (.iconst 1, 1) := by decide +kernel
theorem dX9_blame_66 : decode cX9_blame 66 = .ok (.iadd, 1) := by decide +kernel
theorem dX9_blame_67 : decode cX9_blame 67 = .ok (.iload_n 1, 1) := by decide +kernel
theorem dX9_blame_68 : decode cX9_blame 68 = .ok (.iload_n 2, 1) := by decide +kernel
theorem dX9_blame_69 : decode cX9_blame 69 = .ok (.invokevirtual 327, 3) := by decide +kernel
theorem dX9_blame_72 : decode cX9_blame 72 = .ok (.aload_n 0, 1) := by decide +kernel
theorem dX9_blame_73 : decode cX9_blame 73 = .ok (.iload_n 3, 1) := by decide +kernel
theorem dX9_blame_74 : decode cX9_blame 74 = .ok (.iload_n 1, 1) := by decide +kernel
theorem dX9_blame_75 : decode cX9_blame 75 = .ok (.iload_n 2, 1) := by decide +kernel
theorem dX9_blame_76 : decode cX9_blame 76 = .ok (.invokevirtual 327, 3) := by decide +kernel
theorem dX9_blame_79 : decode cX9_blame 79 = .ok (.lsub, 1) := by decide +kernel
theorem dX9_blame_80 : decode cX9_blame 80 = .ok (.lreturn, 1) := by decide +kernel
def uX9_anew : List Cond := .code yX9_anew cX9_anew 2 (some .int) :: ([.fieldLink RX9 29 "RiverModel" "isBuilt" "Z", .fieldLink RX9 53 "RiverModel" "now" "LRiverModel$Course;", .fieldLink RX9 144 "RiverModel$Course" "hours" "I", .fieldLink RX9 19 "RiverModel" "model" "LRiverModel$Model;", .methodLink RX9 147 yX0_begin, .instanceMethod yX0_begin, .selects RX0 yX0_begin yX0_begin, .initialized RX0, .code yX0_begin cX0_begin 3 none, .fieldLink RX0 15 "RiverModel$Course" "moved" "[J", .methodLink RX0 45 yJ7_fill_d0a16, .static yJ7_fill_d0a16, .initialized RJ7, .fieldLink RX0 18 "RiverModel$Course" "openings" "[I", .methodLink RX0 51 yJ7_fill_53178, .static yJ7_fill_53178, .fieldLink RX0 22 "RiverModel$Course" "due" "[J", .fieldLink RX0 25 "RiverModel$Course" "rained" "J", .fieldLink RX0 29 "RiverModel$Course" "air" "J", .fieldLink RX0 32 "RiverModel$Course" "sea" "J", .fieldLink RX0 35 "RiverModel$Course" "hours" "I", .fieldLink RX0 9 "RiverModel$Course" "held" "[J", .methodLink RX0 39 yX4_startOf, .instanceMethod yX4_startOf, .selects RX4 yX4_startOf yX4_startOf, .initialized RX4, .code yJ7_fill_d0a16 cJ7_fill_d0a16 5 none, .code yJ7_fill_53178 cJ7_fill_53178 4 none, .code yX4_startOf cX4_startOf 2 (some .int), .methodLink RX4 66 yX4_hasStore, .instanceMethod yX4_hasStore, .selects RX4 yX4_hasStore yX4_hasStore, .fieldLink RX4 15 "RiverModel$Model" "storeItems" "[I", .methodLink RX4 73 yX4_cell, .instanceMethod yX4_cell, .selects RX4 yX4_cell yX4_cell, .code yX4_hasStore cX4_hasStore 2 (some .boolean), .code yX4_cell cX4_cell 3 (some .int), .fieldLink RX4 9 "RiverModel$Model" "cells" "[I"] ++ wsX90 ++ wsX00 ++ wsX40)
set_option maxRecDepth 20000 in
theorem gu_X9_anew_X0_begin_147 : GoodIn uX9_anew (wsV RX9 147 RX0 yX0_begin uX0_begin) := goodIn_r _ [5, 6, 7, 8, 9, 10, 11, 12, 13, 14, 15, 16, 17, 18, 19, 20, 21, 22, 23, 24, 25, 26, 27, 28, 29, 30, 31, 32, 33, 34, 35, 36, 37, 38, 39, 58, 59, 60, 61, 62, 63, 64, 65, 66, 67, 68, 69, 70, 71] rfl (by decide +kernel)
set_option maxHeartbeats 4000000 in
set_option maxRecDepth 100000 in
theorem s_X9_anew (l : Launch) (D : va_G) (t : Nat → Nat) (cI cL cC : ClassId) (gC : Int32) (gE : Int32) (G : Nat) (gW : Nat → Int32) (gA : Nat → Int32) (a0 : Nat) (k_a0 : t a0 = 1) : tM l yX9_anew uX9_anew 3 65 D (gF cI cL cC gC gE G gW gA) (gF cI cL cC gC gE G gW gA) t cI cL cC [.ref a0] wrC (pI (fun r => True)) := by
  refine tM.ofW (cc := cX9_anew) (maxL := 2) (ret := (some .int)) (by decide) rfl (Nat.le_of_ble_eq_true rfl) ?_
  intro p e s m below meth c hx hb hr hml hown hts hlk H locs hG hK hE hS ls hl
  have hl : lv_has ls 2 [(0, .ref a0)] := hl
  have in9 : ∀ w ∈ wsX90, w ∈ uX9_anew := fun w h => List.mem_cons_of_mem _ (List.mem_append_left _ (List.mem_append_left _ (List.mem_append_right _ h)))
  have in0 : ∀ w ∈ wsX00, w ∈ uX9_anew := fun w h => List.mem_cons_of_mem _ (List.mem_append_left _ (List.mem_append_right _ h))
  refine lv_aload_n hx hb dX9_anew_0 rfl (lv_at hl 0 rfl) ?_
  obtain ⟨r_1, r_3, r_5, r_7, v_9, v_10, r_11, r_13, r_15, r_17, r_19, r_21, r_23, v_25, r_27, r_29, r_31, r_33, at_35, h_2, h_4, h_6, h_8, h_12, h_14, h_16, h_18, h_20, h_22, h_24, h_26, h_28, h_30, h_32, h_34⟩ := gF_o1 hG k_a0
  refine va_get (D := D) (ci := 8) (v := .int v_9) (C := RX9) (T := TX9) (N := 18) hx hb hts in9 hown hK (va_one at_35) 0 rfl rfl 4 (by decide) (hts (.fieldLink RX9 29 "RiverModel" "isBuilt" "Z") (List.mem_of_getElem? (i := 1) rfl)) (fun _ h9 => h9) rfl dX9_anew_1 ?_
  refine lv_if_ne (tgt := 10) hx hb dX9_anew_4 (by decide) (fun c_36 => ?_) (fun c_36 => ?_)
  · skip
    have c_36 : v_9.toInt ≠ 0 := q_ne c_36
    refine lv_aload_n hx hb dX9_anew_10 rfl (lv_at hl 0 rfl) ?_
    refine va_get (D := D) (ci := 8) (v := .ref r_17) (C := RX9) (T := TX9) (N := 18) hx hb hts in9 hown hK (va_one at_35) 0 rfl rfl 9 (by decide) (hts (.fieldLink RX9 53 "RiverModel" "now" "LRiverModel$Course;") (List.mem_of_getElem? (i := 2) rfl)) (fun _ h9 => h9) rfl dX9_anew_11 ?_
    obtain ⟨r_37, r_39, r_41, r_43, v_45, v_46, v_47, v_48, at_50, h_38, h_40, h_42, h_44, h_49⟩ := gF_o5 hG h_18
    refine va_get (D := D) (ci := 0) (v := .int v_48) (C := RX0) (T := TX0) (N := 8) hx hb hts in0 hown hK (va_one at_50) 0 rfl rfl 7 (by decide) (hts (.fieldLink RX9 144 "RiverModel$Course" "hours" "I") (List.mem_of_getElem? (i := 3) rfl)) (fun _ h9 => h9) rfl dX9_anew_14 ?_
    refine lv_istore_n (lv' := [(1, .int v_48), (0, .ref a0)]) hx hb dX9_anew_17 rfl hl (by decide) rfl (fun ls hl => ?_)
    refine lv_pc (pc2 := 18) rfl ?_
    refine lv_aload_n hx hb dX9_anew_18 rfl (lv_at hl 1 rfl) ?_
    refine va_get (D := D) (ci := 8) (v := .ref r_17) (C := RX9) (T := TX9) (N := 18) hx hb hts in9 hown hK (va_one at_35) 0 rfl rfl 9 (by decide) (hts (.fieldLink RX9 53 "RiverModel" "now" "LRiverModel$Course;") (List.mem_of_getElem? (i := 2) rfl)) (fun _ h9 => h9) rfl dX9_anew_19 ?_
    refine lv_aload_n hx hb dX9_anew_22 rfl (lv_at hl 1 rfl) ?_
    refine va_get (D := D) (ci := 8) (v := .ref r_3) (C := RX9) (T := TX9) (N := 18) hx hb hts in9 hown hK (va_one at_35) 0 rfl rfl 1 (by decide) (hts (.fieldLink RX9 19 "RiverModel" "model" "LRiverModel$Model;") (List.mem_of_getElem? (i := 4) rfl)) (fun _ h9 => h9) rfl dX9_anew_23 ?_
    refine ty_callv ((W.runV (As := [.ref r_3]) (rest := []) ⟨hx, hb, hml, hown, hts⟩ (s_X0_begin l D t cI cL cC gC gE G gW gA r_17 r_3 h_18 h_4) (cwV 1 hts gu_X9_anew_X0_begin_147 rfl rfl rfl (by decide +kernel) ⟨Nat.le_of_ble_eq_true rfl, Nat.le_of_ble_eq_true rfl⟩) (tP_V hG hE at_50 rfl) rfl rfl hl.1 rfl (lv_room (Nat.le_of_ble_eq_true rfl)) dX9_anew_26 ⟨Nat.le_of_ble_eq_true rfl, Nat.le_of_ble_eq_true rfl⟩)) hS (fun _ h => h) (fun H locs hp_52 hG hS o_53 => ?_)
    have at_35 := va_at.keptC at_35 o_53 k_a0 rfl
    refine lv_iload_n hx hb dX9_anew_29 rfl (lv_at hl 0 rfl) ?_
    exact ty_iret hx hb hr hlk hG hS True.intro dX9_anew_30
  · skip
    have c_36 : v_9.toInt = 0 := q_eq c_36
    refine lv_bipush (v := (-2)) hx hb dX9_anew_7 (by decide) ?_
    refine lv_pc (pc2 := 9) rfl ?_
    exact ty_iret hx hb hr hlk hG hS True.intro dX9_anew_9

def uX9_knob : List Cond := .code yX9_knob cX9_knob 7 (some .int) :: ([.methodLink RX9 228 yX9_isNoKnob, .static yX9_isNoKnob, .initialized RX9, .methodLink RX9 127 yX9_isNoItem, .static yX9_isNoItem, .methodLink RX9 99 yX9_isOutside, .static yX9_isOutside, .constant RX9 231 (1000000), .methodLink RX9 131 yX9_lacksItem, .instanceMethod yX9_lacksItem, .selects RX9 yX9_lacksItem yX9_lacksItem, .fieldLink RX9 19 "RiverModel" "model" "LRiverModel$Model;", .methodLink RX9 232 yX4_hasNumber, .instanceMethod yX4_hasNumber, .selects RX4 yX4_hasNumber yX4_hasNumber, .initialized RX4, .fieldLink RX9 81 "RiverModel" "knobs" "LRiverModel$Knobs;", .methodLink RX9 236 yX3_set, .instanceMethod yX3_set, .selects RX3 yX3_set yX3_set, .initialized RX3, .code yX9_isNoKnob cX9_isNoKnob 1 (some .boolean), .code yX9_isNoItem cX9_isNoItem 1 (some .boolean), .code yX9_isOutside cX9_isOutside 3 (some .boolean), .code yX9_lacksItem cX9_lacksItem 2 (some .boolean), .fieldLink RX9 29 "RiverModel" "isBuilt" "Z", .fieldLink RX9 124 "RiverModel$Model" "many" "I", .code yX4_hasNumber cX4_hasNumber 3 (some .boolean), .methodLink RX4 73 yX4_cell, .instanceMethod yX4_cell, .selects RX4 yX4_cell yX4_cell, .methodLink RX4 86 yX2_numbersOf, .static yX2_numbersOf, .initialized RX2, .code yX4_cell cX4_cell 3 (some .int), .fieldLink RX4 9 "RiverModel$Model" "cells" "[I", .code yX2_numbersOf cX2_numbersOf 1 (some .int), .code yX3_set cX3_set 7 none, .fieldLink RX3 9 "RiverModel$Knobs" "items" "[I", .fieldLink RX3 15 "RiverModel$Knobs" "numbers" "[I", .fieldLink RX3 18 "RiverModel$Knobs" "froms" "[I", .fieldLink RX3 21 "RiverModel$Knobs" "steps" "[I", .fieldLink RX3 24 "RiverModel$Knobs" "manys" "[I"] ++ wsX90 ++ wsX40 ++ wsX30)
set_option maxRecDepth 20000 in
theorem gu_X9_knob_X9_isNoKnob_228 : GoodIn uX9_knob (va_wsS RX9 228 yX9_isNoKnob uX9_isNoKnob) := goodIn_r _ [1, 2, 3, 22] rfl (by decide +kernel)
set_option maxRecDepth 20000 in
theorem gu_X9_knob_X9_isNoItem_127 : GoodIn uX9_knob (va_wsS RX9 127 yX9_isNoItem uX9_isNoItem) := goodIn_r _ [4, 5, 3, 23] rfl (by decide +kernel)
set_option maxRecDepth 20000 in
theorem gu_X9_knob_X9_isOutside_99 : GoodIn uX9_knob (va_wsS RX9 99 yX9_isOutside uX9_isOutside) := goodIn_r _ [6, 7, 3, 24] rfl (by decide +kernel)
set_option maxRecDepth 20000 in
theorem gu_X9_knob_X9_lacksItem_131 : GoodIn uX9_knob (wsV RX9 131 RX9 yX9_lacksItem uX9_lacksItem) := goodIn_r _ [9, 10, 11, 3, 25, 26, 12, 27, 44, 45, 46, 47, 48, 49, 50, 51, 52, 53, 54, 55, 56, 57, 58, 59, 60, 61, 62, 63, 64, 65, 66, 67] rfl (by decide +kernel)
set_option maxRecDepth 20000 in
theorem gu_X9_knob_X4_hasNumber_232 : GoodIn uX9_knob (wsV RX9 232 RX4 yX4_hasNumber uX4_hasNumber) := goodIn_r _ [13, 14, 15, 16, 28, 29, 30, 31, 16, 32, 33, 34, 35, 36, 37, 62, 63, 64, 65, 66, 67] rfl (by decide +kernel)
set_option maxRecDepth 20000 in
theorem gu_X9_knob_X3_set_236 : GoodIn uX9_knob (wsV RX9 236 RX3 yX3_set uX3_set) := goodIn_r _ [18, 19, 20, 21, 38, 3, 2, 39, 40, 41, 42, 43, 22, 68, 69, 70, 71, 72] rfl (by decide +kernel)
set_option maxHeartbeats 4000000 in
set_option maxRecDepth 100000 in
theorem s_X9_knob (l : Launch) (D : va_G) (t : Nat → Nat) (cI cL cC : ClassId) (gC : Int32) (gE : Int32) (G : Nat) (gW : Nat → Int32) (gA : Nat → Int32) (a0 : Nat) (a1 : Int32) (a2 : Int32) (a3 : Int32) (a4 : Int32) (a5 : Int32) (a6 : Int32) (k_a0 : t a0 = 1) : tM l yX9_knob uX9_knob 2 46 D (gF cI cL cC gC gE G gW gA) (gF cI cL cC gC gE G gW gA) t cI cL cC [.ref a0, .int a1, .int a2, .int a3, .int a4, .int a5, .int a6] wrKn (pI (fun r => True)) := by
  refine tM.ofW (cc := cX9_knob) (maxL := 7) (ret := (some .int)) (by decide) rfl (Nat.le_of_ble_eq_true rfl) ?_
  intro p e s m below meth c hx hb hr hml hown hts hlk H locs hG hK hE hS ls hl
  have hl : lv_has ls 7 [(0, .ref a0), (1, .int a1), (2, .int a2), (3, .int a3), (4, .int a4), (5, .int a5), (6, .int a6)] := hl
  have in9 : ∀ w ∈ wsX90, w ∈ uX9_knob := fun w h => List.mem_cons_of_mem _ (List.mem_append_left _ (List.mem_append_left _ (List.mem_append_right _ h)))
  refine lv_iload_n hx hb dX9_knob_0 rfl (lv_at hl 1 rfl) ?_
  refine ty_calli ((W.runS (As := [.int a1]) (rest := []) ⟨hx, hb, hml, hown, hts⟩ (s_X9_isNoKnob l D t cI cL cC gC gE G gW gA a1 ) (va_cwS 1 hts gu_X9_knob_X9_isNoKnob_228 rfl rfl rfl (by decide +kernel) ⟨Nat.le_of_ble_eq_true rfl, Nat.le_of_ble_eq_true rfl⟩) (tP_S hG hE) rfl rfl hl.1 rfl (lv_room (Nat.le_of_ble_eq_true rfl)) dX9_knob_1 ⟨Nat.le_of_ble_eq_true rfl, Nat.le_of_ble_eq_true rfl⟩)) hS (fun k h => by simp [wr0] at h) (fun r_1 H locs hp_2 hG hS o_3 => ?_)
  rcases hp_2 with ⟨rfl, hc_173⟩ | ⟨rfl, hc_174, hc_175⟩
  · skip
    refine lv_if_ne (tgt := 23) hx hb dX9_knob_4 (by decide) (fun _ => ?_) (fun q => absurd q (by decide))
    refine lv_iconst (v := (-1)) hx hb dX9_knob_23 (by decide) ?_
    exact ty_iret hx hb hr hlk hG hS True.intro dX9_knob_24
  · skip
    refine lv_if_ne (tgt := 23) hx hb dX9_knob_4 (by decide) (fun q => absurd rfl q) (fun _ => ?_)
    refine lv_iload_n hx hb dX9_knob_7 rfl (lv_at hl 2 rfl) ?_
    refine lv_pc (pc2 := 8) rfl ?_
    refine ty_calli ((W.runS (As := [.int a2]) (rest := []) ⟨hx, hb, hml, hown, hts⟩ (s_X9_isNoItem l D t cI cL cC gC gE G gW gA a2 ) (va_cwS 1 hts gu_X9_knob_X9_isNoItem_127 rfl rfl rfl (by decide +kernel) ⟨Nat.le_of_ble_eq_true rfl, Nat.le_of_ble_eq_true rfl⟩) (tP_S hG hE) rfl rfl hl.1 rfl (lv_room (Nat.le_of_ble_eq_true rfl)) dX9_knob_8 ⟨Nat.le_of_ble_eq_true rfl, Nat.le_of_ble_eq_true rfl⟩)) hS (fun k h => by simp [wr0] at h) (fun r_4 H locs hp_5 hG hS o_6 => ?_)
    rcases hp_5 with ⟨rfl, hc_176⟩ | ⟨rfl, hc_177, hc_178⟩
    · skip
      refine lv_if_ne (tgt := 23) hx hb dX9_knob_11 (by decide) (fun _ => ?_) (fun q => absurd q (by decide))
      refine lv_iconst (v := (-1)) hx hb dX9_knob_23 (by decide) ?_
      exact ty_iret hx hb hr hlk hG hS True.intro dX9_knob_24
    · skip
      refine lv_if_ne (tgt := 23) hx hb dX9_knob_11 (by decide) (fun q => absurd rfl q) (fun _ => ?_)
      refine lv_iload_n hx hb dX9_knob_14 rfl (lv_at hl 3 rfl) ?_
      refine lv_iconst (v := 0) hx hb dX9_knob_15 (by decide) ?_
      refine lv_iconst (v := 2) hx hb dX9_knob_16 (by decide) ?_
      refine lv_pc (pc2 := 17) rfl ?_
      refine ty_calli ((W.runS (As := [.int a3, .int 0, .int 2]) (rest := []) ⟨hx, hb, hml, hown, hts⟩ (s_X9_isOutside l D t cI cL cC gC gE G gW gA a3 0 2 0 2 (by decide) (by decide) ) (va_cwS 3 hts gu_X9_knob_X9_isOutside_99 rfl rfl rfl (by decide +kernel) ⟨Nat.le_of_ble_eq_true rfl, Nat.le_of_ble_eq_true rfl⟩) (tP_S hG hE) rfl rfl hl.1 rfl (lv_room (Nat.le_of_ble_eq_true rfl)) dX9_knob_17 ⟨Nat.le_of_ble_eq_true rfl, Nat.le_of_ble_eq_true rfl⟩)) hS (fun k h => by simp [wr0] at h) (fun r_7 H locs hp_8 hG hS o_9 => ?_)
      rcases hp_8 with ⟨rfl, hc_179⟩ | ⟨rfl, hc_180, hc_181⟩
      · skip
        refine lv_if_eq (tgt := 25) hx hb dX9_knob_20 (by decide) (fun q => absurd q (by decide)) (fun _ => ?_)
        refine lv_iconst (v := (-1)) hx hb dX9_knob_23 (by decide) ?_
        exact ty_iret hx hb hr hlk hG hS True.intro dX9_knob_24
      · skip
        refine lv_if_eq (tgt := 25) hx hb dX9_knob_20 (by decide) (fun _ => ?_) (fun q => absurd (by decide) q)
        refine lv_iload hx hb dX9_knob_25 (lv_at hl 4 rfl) ?_
        refine lv_iconst (v := 0) hx hb dX9_knob_27 (by decide) ?_
        refine lv_ldc hx hb hown (hts (.constant RX9 231 (1000000)) (List.mem_of_getElem? (i := 8) rfl)) dX9_knob_28 ?_
        refine lv_pc (pc2 := 30) rfl ?_
        refine ty_calli ((W.runS (As := [.int a4, .int 0, .int 1000000]) (rest := []) ⟨hx, hb, hml, hown, hts⟩ (s_X9_isOutside l D t cI cL cC gC gE G gW gA a4 0 1000000 0 1000000 (by decide) (by decide) ) (va_cwS 3 hts gu_X9_knob_X9_isOutside_99 rfl rfl rfl (by decide +kernel) ⟨Nat.le_of_ble_eq_true rfl, Nat.le_of_ble_eq_true rfl⟩) (tP_S hG hE) rfl rfl hl.1 rfl (lv_room (Nat.le_of_ble_eq_true rfl)) dX9_knob_30 ⟨Nat.le_of_ble_eq_true rfl, Nat.le_of_ble_eq_true rfl⟩)) hS (fun k h => by simp [wr0] at h) (fun r_10 H locs hp_11 hG hS o_12 => ?_)
        rcases hp_11 with ⟨rfl, hc_182⟩ | ⟨rfl, hc_183, hc_184⟩
        · skip
          refine lv_if_ne (tgt := 58) hx hb dX9_knob_33 (by decide) (fun _ => ?_) (fun q => absurd q (by decide))
          refine lv_iconst (v := (-1)) hx hb dX9_knob_58 (by decide) ?_
          exact ty_iret hx hb hr hlk hG hS True.intro dX9_knob_59
        · skip
          refine lv_if_ne (tgt := 58) hx hb dX9_knob_33 (by decide) (fun q => absurd rfl q) (fun _ => ?_)
          refine lv_iload hx hb dX9_knob_36 (lv_at hl 5 rfl) ?_
          refine lv_iconst (v := 1) hx hb dX9_knob_38 (by decide) ?_
          refine lv_ldc hx hb hown (hts (.constant RX9 231 (1000000)) (List.mem_of_getElem? (i := 8) rfl)) dX9_knob_39 ?_
          refine lv_pc (pc2 := 41) rfl ?_
          refine ty_calli ((W.runS (As := [.int a5, .int 1, .int 1000000]) (rest := []) ⟨hx, hb, hml, hown, hts⟩ (s_X9_isOutside l D t cI cL cC gC gE G gW gA a5 1 1000000 1 1000000 (by decide) (by decide) ) (va_cwS 3 hts gu_X9_knob_X9_isOutside_99 rfl rfl rfl (by decide +kernel) ⟨Nat.le_of_ble_eq_true rfl, Nat.le_of_ble_eq_true rfl⟩) (tP_S hG hE) rfl rfl hl.1 rfl (lv_room (Nat.le_of_ble_eq_true rfl)) dX9_knob_41 ⟨Nat.le_of_ble_eq_true rfl, Nat.le_of_ble_eq_true rfl⟩)) hS (fun k h => by simp [wr0] at h) (fun r_13 H locs hp_14 hG hS o_15 => ?_)
          rcases hp_14 with ⟨rfl, hc_185⟩ | ⟨rfl, hc_186, hc_187⟩
          · skip
            refine lv_if_ne (tgt := 58) hx hb dX9_knob_44 (by decide) (fun _ => ?_) (fun q => absurd q (by decide))
            refine lv_iconst (v := (-1)) hx hb dX9_knob_58 (by decide) ?_
            exact ty_iret hx hb hr hlk hG hS True.intro dX9_knob_59
          · skip
            refine lv_if_ne (tgt := 58) hx hb dX9_knob_44 (by decide) (fun q => absurd rfl q) (fun _ => ?_)
            refine lv_iload hx hb dX9_knob_47 (lv_at hl 6 rfl) ?_
            refine lv_iconst (v := 0) hx hb dX9_knob_49 (by decide) ?_
            refine lv_bipush (v := 16) hx hb dX9_knob_50 (by decide) ?_
            refine lv_pc (pc2 := 52) rfl ?_
            refine ty_calli ((W.runS (As := [.int a6, .int 0, .int 16]) (rest := []) ⟨hx, hb, hml, hown, hts⟩ (s_X9_isOutside l D t cI cL cC gC gE G gW gA a6 0 16 0 16 (by decide) (by decide) ) (va_cwS 3 hts gu_X9_knob_X9_isOutside_99 rfl rfl rfl (by decide +kernel) ⟨Nat.le_of_ble_eq_true rfl, Nat.le_of_ble_eq_true rfl⟩) (tP_S hG hE) rfl rfl hl.1 rfl (lv_room (Nat.le_of_ble_eq_true rfl)) dX9_knob_52 ⟨Nat.le_of_ble_eq_true rfl, Nat.le_of_ble_eq_true rfl⟩)) hS (fun k h => by simp [wr0] at h) (fun r_16 H locs hp_17 hG hS o_18 => ?_)
            rcases hp_17 with ⟨rfl, hc_188⟩ | ⟨rfl, hc_189, hc_190⟩
            · skip
              refine lv_if_eq (tgt := 60) hx hb dX9_knob_55 (by decide) (fun q => absurd q (by decide)) (fun _ => ?_)
              refine lv_iconst (v := (-1)) hx hb dX9_knob_58 (by decide) ?_
              exact ty_iret hx hb hr hlk hG hS True.intro dX9_knob_59
            · skip
              refine lv_if_eq (tgt := 60) hx hb dX9_knob_55 (by decide) (fun _ => ?_) (fun q => absurd (by decide) q)
              refine lv_aload_n hx hb dX9_knob_60 rfl (lv_at hl 0 rfl) ?_
              refine lv_iload_n hx hb dX9_knob_61 rfl (lv_at hl 2 rfl) ?_
              obtain ⟨r_19, r_21, r_23, r_25, v_27, v_28, r_29, r_31, r_33, r_35, r_37, r_39, r_41, v_43, r_45, r_47, r_49, r_51, at_53, h_20, h_22, h_24, h_26, h_30, h_32, h_34, h_36, h_38, h_40, h_42, h_44, h_46, h_48, h_50, h_52⟩ := gF_o1 hG k_a0
              refine ty_calli ((W.runV (As := [.int a2]) (rest := []) ⟨hx, hb, hml, hown, hts⟩ (s_X9_lacksItem l D t cI cL cC gC gE G gW gA a0 a2 k_a0) (cwV 1 hts gu_X9_knob_X9_lacksItem_131 rfl rfl rfl (by decide +kernel) ⟨Nat.le_of_ble_eq_true rfl, Nat.le_of_ble_eq_true rfl⟩) (tP_V hG hE at_53 rfl) rfl rfl hl.1 rfl (lv_room (Nat.le_of_ble_eq_true rfl)) dX9_knob_62 ⟨Nat.le_of_ble_eq_true rfl, Nat.le_of_ble_eq_true rfl⟩)) hS (fun k h => by simp [wr0] at h) (fun r_54 H locs hp_55 hG hS o_56 => ?_)
              have at_53 := va_at.keptC at_53 o_56 k_a0 rfl
              rcases hp_55 with rfl | rfl
              · skip
                refine lv_pc (pc2 := 65) rfl ?_
                refine lv_if_ne (tgt := 80) hx hb dX9_knob_65 (by decide) (fun q => absurd rfl q) (fun _ => ?_)
                refine lv_aload_n hx hb dX9_knob_68 rfl (lv_at hl 0 rfl) ?_
                refine va_get (D := D) (ci := 8) (v := .ref r_21) (C := RX9) (T := TX9) (N := 18) hx hb hts in9 hown hK (va_one at_53) 0 rfl rfl 1 (by decide) (hts (.fieldLink RX9 19 "RiverModel" "model" "LRiverModel$Model;") (List.mem_of_getElem? (i := 12) rfl)) (fun _ h9 => h9) rfl dX9_knob_69 ?_
                refine lv_iload_n hx hb dX9_knob_72 rfl (lv_at hl 2 rfl) ?_
                refine lv_iload_n hx hb dX9_knob_73 rfl (lv_at hl 3 rfl) ?_
                obtain ⟨r_57, r_59, r_61, v_63, v_64, v_65, at_67, h_58, h_60, h_62, h_66⟩ := gF_o3 hG h_22
                refine ty_calli ((W.runV (As := [.int a2, .int a3]) (rest := []) ⟨hx, hb, hml, hown, hts⟩ (s_X4_hasNumber l D t cI cL cC gC gE G gW gA r_21 a2 a3 h_22) (cwV 2 hts gu_X9_knob_X4_hasNumber_232 rfl rfl rfl (by decide +kernel) ⟨Nat.le_of_ble_eq_true rfl, Nat.le_of_ble_eq_true rfl⟩) (tP_V hG hE at_67 rfl) rfl rfl hl.1 rfl (lv_room (Nat.le_of_ble_eq_true rfl)) dX9_knob_74 ⟨Nat.le_of_ble_eq_true rfl, Nat.le_of_ble_eq_true rfl⟩)) hS (fun k h => by simp [wr0] at h) (fun r_68 H locs hp_69 hG hS o_70 => ?_)
                have at_53 := va_at.keptC at_53 o_70 k_a0 rfl
                have at_67 := va_at.keptC at_67 o_70 h_22 rfl
                rcases hp_69 with rfl | rfl
                · skip
                  refine lv_if_ne (tgt := 83) hx hb dX9_knob_77 (by decide) (fun q => absurd rfl q) (fun _ => ?_)
                  refine lv_bipush (v := (-2)) hx hb dX9_knob_80 (by decide) ?_
                  refine lv_pc (pc2 := 82) rfl ?_
                  exact ty_iret hx hb hr hlk hG hS True.intro dX9_knob_82
                · skip
                  refine lv_if_ne (tgt := 83) hx hb dX9_knob_77 (by decide) (fun _ => ?_) (fun q => absurd q (by decide))
                  refine lv_aload_n hx hb dX9_knob_83 rfl (lv_at hl 0 rfl) ?_
                  refine va_get (D := D) (ci := 8) (v := .ref r_47) (C := RX9) (T := TX9) (N := 18) hx hb hts in9 hown hK (va_one at_53) 0 rfl rfl 15 (by decide) (hts (.fieldLink RX9 81 "RiverModel" "knobs" "LRiverModel$Knobs;") (List.mem_of_getElem? (i := 17) rfl)) (fun _ h9 => h9) rfl dX9_knob_84 ?_
                  refine lv_iload_n hx hb dX9_knob_87 rfl (lv_at hl 1 rfl) ?_
                  refine lv_iload_n hx hb dX9_knob_88 rfl (lv_at hl 2 rfl) ?_
                  refine lv_iload_n hx hb dX9_knob_89 rfl (lv_at hl 3 rfl) ?_
                  refine lv_iload hx hb dX9_knob_90 (lv_at hl 4 rfl) ?_
                  refine lv_pc (pc2 := 92) rfl ?_
                  refine lv_iload hx hb dX9_knob_92 (lv_at hl 5 rfl) ?_
                  refine lv_iload hx hb dX9_knob_94 (lv_at hl 6 rfl) ?_
                  obtain ⟨r_71, r_73, r_75, r_77, r_79, at_81, h_72, h_74, h_76, h_78, h_80⟩ := gF_o7 hG h_48
                  refine ty_callv ((W.runV (As := [.int a1, .int a2, .int a3, .int a4, .int a5, .int a6]) (rest := []) ⟨hx, hb, hml, hown, hts⟩ (s_X3_set l D t cI cL cC gC gE G gW gA r_47 a1 a2 a3 a4 a5 a6 (by omega) (by omega) h_48) (cwV 6 hts gu_X9_knob_X3_set_236 rfl rfl rfl (by decide +kernel) ⟨Nat.le_of_ble_eq_true rfl, Nat.le_of_ble_eq_true rfl⟩) (tP_V hG hE at_81 rfl) rfl rfl hl.1 rfl (lv_room (Nat.le_of_ble_eq_true rfl)) dX9_knob_96 ⟨Nat.le_of_ble_eq_true rfl, Nat.le_of_ble_eq_true rfl⟩)) hS (fun _ h => h) (fun H locs hp_83 hG hS o_84 => ?_)
                  have at_53 := va_at.keptC at_53 o_84 k_a0 rfl
                  have at_67 := va_at.keptC at_67 o_84 h_22 rfl
                  have at_81 := va_at.keptC at_81 o_84 h_48 rfl
                  refine lv_iconst (v := 0) hx hb dX9_knob_99 (by decide) ?_
                  exact ty_iret hx hb hr hlk hG hS True.intro dX9_knob_100
              · skip
                refine lv_if_ne (tgt := 80) hx hb dX9_knob_65 (by decide) (fun _ => ?_) (fun q => absurd q (by decide))
                refine lv_bipush (v := (-2)) hx hb dX9_knob_80 (by decide) ?_
                exact ty_iret hx hb hr hlk hG hS True.intro dX9_knob_82

def uX9_run : List Cond := .code yX9_run cX9_run 3 (some .int) :: ([.methodLink RX9 99 yX9_isOutside, .static yX9_isOutside, .initialized RX9, .fieldLink RX9 29 "RiverModel" "isBuilt" "Z", .fieldLink RX9 53 "RiverModel" "now" "LRiverModel$Course;", .fieldLink RX9 144 "RiverModel$Course" "hours" "I", .fieldLink RX9 19 "RiverModel" "model" "LRiverModel$Model;", .fieldLink RX9 39 "RiverModel" "skyA" "LRiverModel$Sky;", .methodLink RX9 151 yX0_goHourBy, .instanceMethod yX0_goHourBy, .selects RX0 yX0_goHourBy yX0_goHourBy, .initialized RX0, .code yX9_isOutside cX9_isOutside 3 (some .boolean), .code yX0_goHourBy cX0_goHourBy 3 none, .fieldLink RX0 35 "RiverModel$Course" "hours" "I", .methodLink RX0 60 yX6_rainIn, .instanceMethod yX6_rainIn, .selects RX6 yX6_rainIn yX6_rainIn, .initialized RX6, .methodLink RX0 65 yX6_tempIn, .instanceMethod yX6_tempIn, .selects RX6 yX6_tempIn yX6_tempIn, .methodLink RX0 68 yX0_goHour, .instanceMethod yX0_goHour, .selects RX0 yX0_goHour yX0_goHour, .code yX6_rainIn cX6_rainIn 2 (some .int), .fieldLink RX6 9 "RiverModel$Sky" "rains" "[I", .code yX6_tempIn cX6_tempIn 2 (some .int), .fieldLink RX6 15 "RiverModel$Sky" "temps" "[I", .code yX0_goHour cX0_goHour 7 none, .methodLink RX0 72 yX0_bringDue, .instanceMethod yX0_bringDue, .selects RX0 yX0_bringDue yX0_bringDue, .fieldLink RX0 75 "RiverModel$Model" "many" "I", .methodLink RX0 78 yX0_amountOf, .instanceMethod yX0_amountOf, .selects RX0 yX0_amountOf yX0_amountOf, .fieldLink RX0 15 "RiverModel$Course" "moved" "[J", .methodLink RX0 82 yX0_move, .instanceMethod yX0_move, .selects RX0 yX0_move yX0_move, .code yX0_bringDue cX0_bringDue 3 none, .fieldLink RX0 9 "RiverModel$Course" "held" "[J", .fieldLink RX0 22 "RiverModel$Course" "due" "[J", .code yX0_amountOf cX0_amountOf 11 (some .long), .methodLink RX0 86 yX4_cell, .instanceMethod yX4_cell, .selects RX4 yX4_cell yX4_cell, .initialized RX4, .static yX9_isNoStore, .methodLink RX0 110 yX4_gateOf, .instanceMethod yX4_gateOf, .selects RX4 yX4_gateOf yX4_gateOf, .methodLink RX0 113 yX0_openingOf, .instanceMethod yX0_openingOf, .selects RX0 yX0_openingOf yX0_openingOf, .methodLink RX0 107 Lib.MathLoose.min_long.x, .static Lib.MathLoose.min_long.x, .initialized "java/lang/Math", .code Lib.MathLoose.min_long.x Lib.MathLoose.min_long.code 4 (some .long), .methodLink RX0 94 yX0_leakOf, .static yX0_leakOf, .constantLong RX0 117 (100), .methodLink RX0 98 yX4_capacityOf, .instanceMethod yX4_capacityOf, .selects RX4 yX4_capacityOf yX4_capacityOf, .methodLink RX0 101 Lib.MathLoose.max_long.x, .static Lib.MathLoose.max_long.x, .code Lib.MathLoose.max_long.x Lib.MathLoose.max_long.code 4 (some .long), .constantLong RX0 119 (10), .code yX4_cell cX4_cell 3 (some .int), .fieldLink RX4 9 "RiverModel$Model" "cells" "[I", .code yX9_isNoStore cX9_isNoStore 1 (some .boolean), .code yX4_gateOf cX4_gateOf 3 (some .int), .fieldLink RX4 28 "RiverModel$Model" "gates" "I", .fieldLink RX4 18 "RiverModel$Model" "gateItems" "[I", .code yX0_openingOf cX0_openingOf 2 (some .long), .static yX9_isNoGate, .fieldLink RX0 18 "RiverModel$Course" "openings" "[I", .code yX9_isNoGate cX9_isNoGate 1 (some .boolean), .code yX0_leakOf cX0_leakOf 8 (some .long), .code yX4_capacityOf cX4_capacityOf 2 (some .int), .methodLink RX4 66 yX4_hasStore, .instanceMethod yX4_hasStore, .selects RX4 yX4_hasStore yX4_hasStore, .fieldLink RX4 15 "RiverModel$Model" "storeItems" "[I", .methodLink RX4 73 yX4_cell, .code yX4_hasStore cX4_hasStore 2 (some .boolean), .code yX0_move cX0_move 8 none, .fieldLink RX0 25 "RiverModel$Course" "rained" "J", .methodLink RX0 124 yX0_send, .instanceMethod yX0_send, .selects RX0 yX0_send yX0_send, .fieldLink RX0 32 "RiverModel$Course" "sea" "J", .fieldLink RX0 29 "RiverModel$Course" "air" "J", .code yX0_send cX0_send 5 none] ++ wsX90 ++ wsX00 ++ wsX60 ++ wsX40)
set_option maxRecDepth 20000 in
theorem gu_X9_run_X9_isOutside_99 : GoodIn uX9_run (va_wsS RX9 99 yX9_isOutside uX9_isOutside) := goodIn_r _ [1, 2, 3, 13] rfl (by decide +kernel)
set_option maxRecDepth 20000 in
theorem gu_X9_run_X0_goHourBy_151 : GoodIn uX9_run (wsV RX9 151 RX0 yX0_goHourBy uX0_goHourBy) := goodIn_r _ [9, 10, 11, 12, 14, 15, 16, 17, 18, 19, 20, 21, 22, 23, 24, 25, 12, 26, 3, 2, 27, 13, 28, 29, 30, 31, 32, 33, 34, 35, 36, 37, 38, 39, 40, 41, 42, 43, 44, 45, 46, 47, 48, 49, 50, 51, 52, 53, 54, 55, 56, 57, 58, 59, 60, 61, 62, 63, 64, 65, 66, 67, 68, 69, 70, 71, 72, 73, 74, 75, 76, 77, 78, 79, 80, 81, 82, 83, 84, 85, 86, 87, 88, 89, 90, 91, 92, 93, 94, 95, 96, 115, 116, 117, 118, 119, 120, 121, 122, 123, 124, 125, 126, 127, 128, 129, 130] rfl (by decide +kernel)
set_option maxHeartbeats 4000000 in
set_option maxRecDepth 100000 in
theorem s_X9_run (l : Launch) (D : va_G) (t : Nat → Nat) (cI cL cC : ClassId) (gC : Int32) (gE : Int32) (G : Nat) (gW : Nat → Int32) (gA : Nat → Int32) (a0 : Nat) (a1 : Int32) (hGb : G ≤ 100000000) (k_a0 : t a0 = 1) : tM l yX9_run uX9_run 5 121 D (gF cI cL cC gC gE G gW gA) (gF cI cL cC gC gE (G + 96) gW gA) t cI cL cC [.ref a0, .int a1] wrC (pI (fun r => True)) := by
  refine tM.ofW (cc := cX9_run) (maxL := 3) (ret := (some .int)) (by decide) rfl (Nat.le_of_ble_eq_true rfl) ?_
  intro p e s m below meth c hx hb hr hml hown hts hlk H locs hG hK hE hS ls hl
  have hl : lv_has ls 3 [(0, .ref a0), (1, .int a1)] := hl
  have in9 : ∀ w ∈ wsX90, w ∈ uX9_run := fun w h => List.mem_cons_of_mem _ (List.mem_append_left _ (List.mem_append_left _ (List.mem_append_left _ (List.mem_append_right _ h))))
  have in0 : ∀ w ∈ wsX00, w ∈ uX9_run := fun w h => List.mem_cons_of_mem _ (List.mem_append_left _ (List.mem_append_left _ (List.mem_append_right _ h)))
  refine lv_iload_n hx hb dX9_run_0 rfl (lv_at hl 1 rfl) ?_
  refine lv_iconst (v := 1) hx hb dX9_run_1 (by decide) ?_
  refine lv_bipush (v := 96) hx hb dX9_run_2 (by decide) ?_
  refine ty_calli ((W.runS (As := [.int a1, .int 1, .int 96]) (rest := []) ⟨hx, hb, hml, hown, hts⟩ (s_X9_isOutside l D t cI cL cC gC gE G gW gA a1 1 96 1 96 (by decide) (by decide) ) (va_cwS 3 hts gu_X9_run_X9_isOutside_99 rfl rfl rfl (by decide +kernel) ⟨Nat.le_of_ble_eq_true rfl, Nat.le_of_ble_eq_true rfl⟩) (tP_S hG hE) rfl rfl hl.1 rfl (lv_room (Nat.le_of_ble_eq_true rfl)) dX9_run_4 ⟨Nat.le_of_ble_eq_true rfl, Nat.le_of_ble_eq_true rfl⟩)) hS (fun k h => by simp [wr0] at h) (fun r_1 H locs hp_2 hG hS o_3 => ?_)
  rcases hp_2 with ⟨rfl, hc_191⟩ | ⟨rfl, hc_192, hc_193⟩
  · skip
    refine lv_if_eq (tgt := 12) hx hb dX9_run_7 (by decide) (fun q => absurd q (by decide)) (fun _ => ?_)
    refine lv_iconst (v := (-1)) hx hb dX9_run_10 (by decide) ?_
    exact ty_iret hx hb hr hlk (hG.weak (fun _ _ => gF_mono (by omega))) hS True.intro dX9_run_11
  · skip
    refine lv_pc (pc2 := 7) rfl ?_
    refine lv_if_eq (tgt := 12) hx hb dX9_run_7 (by decide) (fun _ => ?_) (fun q => absurd (by decide) q)
    refine lv_aload_n hx hb dX9_run_12 rfl (lv_at hl 0 rfl) ?_
    obtain ⟨r_4, r_6, r_8, r_10, v_12, v_13, r_14, r_16, r_18, r_20, r_22, r_24, r_26, v_28, r_30, r_32, r_34, r_36, at_38, h_5, h_7, h_9, h_11, h_15, h_17, h_19, h_21, h_23, h_25, h_27, h_29, h_31, h_33, h_35, h_37⟩ := gF_o1 hG k_a0
    refine va_get (D := D) (ci := 8) (v := .int v_12) (C := RX9) (T := TX9) (N := 18) hx hb hts in9 hown hK (va_one at_38) 0 rfl rfl 4 (by decide) (hts (.fieldLink RX9 29 "RiverModel" "isBuilt" "Z") (List.mem_of_getElem? (i := 4) rfl)) (fun _ h9 => h9) rfl dX9_run_13 ?_
    refine lv_if_ne (tgt := 22) hx hb dX9_run_16 (by decide) (fun c_39 => ?_) (fun c_39 => ?_)
    · skip
      have c_39 : v_12.toInt ≠ 0 := q_ne c_39
      refine lv_aload_n hx hb dX9_run_22 rfl (lv_at hl 0 rfl) ?_
      refine va_get (D := D) (ci := 8) (v := .ref r_20) (C := RX9) (T := TX9) (N := 18) hx hb hts in9 hown hK (va_one at_38) 0 rfl rfl 9 (by decide) (hts (.fieldLink RX9 53 "RiverModel" "now" "LRiverModel$Course;") (List.mem_of_getElem? (i := 5) rfl)) (fun _ h9 => h9) rfl dX9_run_23 ?_
      obtain ⟨r_40, r_42, r_44, r_46, v_48, v_49, v_50, v_51, at_53, h_41, h_43, h_45, h_47, h_52⟩ := gF_o5 hG h_21
      refine va_get (D := D) (ci := 0) (v := .int v_51) (C := RX0) (T := TX0) (N := 8) hx hb hts in0 hown hK (va_one at_53) 0 rfl rfl 7 (by decide) (hts (.fieldLink RX9 144 "RiverModel$Course" "hours" "I") (List.mem_of_getElem? (i := 6) rfl)) (fun _ h9 => h9) rfl dX9_run_26 ?_
      refine lv_iload_n hx hb dX9_run_29 rfl (lv_at hl 1 rfl) ?_
      refine lv_pc (pc2 := 30) rfl ?_
      refine lv_iadd hx hb dX9_run_30 ?_
      refine lv_topi (fun x_54 e_55 => ?_)
      refine lv_bipush (v := 96) hx hb dX9_run_31 (by decide) ?_
      refine lv_icmp_le (tgt := 39) hx hb dX9_run_33 (by decide) (fun c_56 => ?_) (fun c_56 => ?_)
      · skip
        have c_56 : x_54.toInt ≤ 96 := q_le c_56
        refine lv_iconst (v := 0) hx hb dX9_run_39 (by decide) ?_
        refine lv_istore_n (lv' := [(2, .int 0), (0, .ref a0), (1, .int a1)]) hx hb dX9_run_40 rfl hl (by decide) rfl (fun ls hl => ?_)
        refine lv_pc (pc2 := 41) rfl ?_
        refine lp_gen (fun WW hWW => ?_)
        have kx : ∀ (yk : Int32) (g : Nat) (H1 : Heap) (locs1 : List Loc) (ls1 : Array Slot), 0 ≤ yk.toInt → yk.toInt ≤ 96 → (g : Int) + (96 - yk.toInt) ≤ (G : Int) + 96 → tG D (gF cI cL cC gC gE g gW gA) t H1 → tF t wrC s.heap H1 locs1 → lv_has ls1 3 [(2, .int yk), (0, .ref a0), (1, .int a1)] → WW H1 locs1 (F0 m 67 ls1 []) := by
          intro yk g H locs ls v0 v1 v2 hG hS hl
          refine (hWW _ _ _).mpr ?_
          refine lv_aload_n hx hb dX9_run_67 rfl (lv_at hl 1 rfl) ?_
          obtain ⟨r_57, r_59, r_61, r_63, v_65, v_66, r_67, r_69, r_71, r_73, r_75, r_77, r_79, v_81, r_83, r_85, r_87, r_89, at_91, h_58, h_60, h_62, h_64, h_68, h_70, h_72, h_74, h_76, h_78, h_80, h_82, h_84, h_86, h_88, h_90⟩ := gF_o1 hG k_a0
          refine va_get (D := D) (ci := 8) (v := .ref r_73) (C := RX9) (T := TX9) (N := 18) hx hb hts in9 hown hK (va_one at_91) 0 rfl rfl 9 (by decide) (hts (.fieldLink RX9 53 "RiverModel" "now" "LRiverModel$Course;") (List.mem_of_getElem? (i := 5) rfl)) (fun _ h9 => h9) rfl dX9_run_68 ?_
          obtain ⟨r_92, r_94, r_96, r_98, v_100, v_101, v_102, v_103, at_105, h_93, h_95, h_97, h_99, h_104⟩ := gF_o5 hG h_74
          refine va_get (D := D) (ci := 0) (v := .int v_103) (C := RX0) (T := TX0) (N := 8) hx hb hts in0 hown hK (va_one at_105) 0 rfl rfl 7 (by decide) (hts (.fieldLink RX9 144 "RiverModel$Course" "hours" "I") (List.mem_of_getElem? (i := 6) rfl)) (fun _ h9 => h9) rfl dX9_run_71 ?_
          refine lv_pc (pc2 := 74) rfl ?_
          exact ty_iret hx hb hr hlk (hG.weak (fun _ _ => gF_mono (by omega))) hS True.intro dX9_run_74
        have loop : ∀ (k : Nat) (yk : Int32) (g : Nat) (H1 : Heap) (locs1 : List Loc) (ls1 : Array Slot), 96 - yk.toInt ≤ (k : Int) → 0 ≤ yk.toInt → yk.toInt ≤ 96 → (g : Int) + (96 - yk.toInt) ≤ (G : Int) + 96 → tG D (gF cI cL cC gC gE g gW gA) t H1 → tF t wrC s.heap H1 locs1 → lv_has ls1 3 [(2, .int yk), (0, .ref a0), (1, .int a1)] → WW H1 locs1 (F0 m 41 ls1 []) := by
          intro k
          induction k with
          | zero =>
            intro yk g H locs ls hk v0 v1 v2 hG hS hl
            refine (hWW _ _ _).mpr ?_
            refine lv_iload_n hx hb dX9_run_41 rfl (lv_at hl 0 rfl) ?_
            refine lv_iload_n hx hb dX9_run_42 rfl (lv_at hl 2 rfl) ?_
            refine lv_icmp_ge (tgt := 67) hx hb dX9_run_43 (by decide) (fun c_106 => ?_) (fun c_106 => ?_)
            · skip
              have c_106 : a1.toInt ≤ yk.toInt := q_le c_106
              exact (hWW _ _ _).mp (kx yk g H locs ls (by omega) (by omega) (by omega) hG hS (lv_sub hl [0, 1, 2] rfl))
            · skip
              have c_106 : yk.toInt < a1.toInt := q_nle c_106
              refine lv_aload_n hx hb dX9_run_46 rfl (lv_at hl 1 rfl) ?_
              obtain ⟨r_107, r_109, r_111, r_113, v_115, v_116, r_117, r_119, r_121, r_123, r_125, r_127, r_129, v_131, r_133, r_135, r_137, r_139, at_141, h_108, h_110, h_112, h_114, h_118, h_120, h_122, h_124, h_126, h_128, h_130, h_132, h_134, h_136, h_138, h_140⟩ := gF_o1 hG k_a0
              refine va_get (D := D) (ci := 8) (v := .ref r_123) (C := RX9) (T := TX9) (N := 18) hx hb hts in9 hown hK (va_one at_141) 0 rfl rfl 9 (by decide) (hts (.fieldLink RX9 53 "RiverModel" "now" "LRiverModel$Course;") (List.mem_of_getElem? (i := 5) rfl)) (fun _ h9 => h9) rfl dX9_run_47 ?_
              refine lv_aload_n hx hb dX9_run_50 rfl (lv_at hl 1 rfl) ?_
              refine va_get (D := D) (ci := 8) (v := .ref r_109) (C := RX9) (T := TX9) (N := 18) hx hb hts in9 hown hK (va_one at_141) 0 rfl rfl 1 (by decide) (hts (.fieldLink RX9 19 "RiverModel" "model" "LRiverModel$Model;") (List.mem_of_getElem? (i := 7) rfl)) (fun _ h9 => h9) rfl dX9_run_51 ?_
              refine lv_pc (pc2 := 54) rfl ?_
              refine lv_aload_n hx hb dX9_run_54 rfl (lv_at hl 1 rfl) ?_
              refine va_get (D := D) (ci := 8) (v := .ref r_117) (C := RX9) (T := TX9) (N := 18) hx hb hts in9 hown hK (va_one at_141) 0 rfl rfl 6 (by decide) (hts (.fieldLink RX9 39 "RiverModel" "skyA" "LRiverModel$Sky;") (List.mem_of_getElem? (i := 8) rfl)) (fun _ h9 => h9) rfl dX9_run_55 ?_
              obtain ⟨r_142, r_144, r_146, r_148, v_150, v_151, v_152, v_153, at_155, h_143, h_145, h_147, h_149, h_154⟩ := gF_o5 hG h_124
              refine ty_callv ((W.runV (As := [.ref r_109, .ref r_117]) (rest := []) ⟨hx, hb, hml, hown, hts⟩ (s_X0_goHourBy l D t cI cL cC gC gE g gW gA r_123 r_109 r_117 (by omega) h_124 h_110 h_118) (cwV 2 hts gu_X9_run_X0_goHourBy_151 rfl rfl rfl (by decide +kernel) ⟨Nat.le_of_ble_eq_true rfl, Nat.le_of_ble_eq_true rfl⟩) (tP_V hG hE at_155 rfl) rfl rfl hl.1 rfl (lv_room (Nat.le_of_ble_eq_true rfl)) dX9_run_58 ⟨Nat.le_of_ble_eq_true rfl, Nat.le_of_ble_eq_true rfl⟩)) hS (fun _ h => h) (fun H locs hp_157 hG hS o_158 => ?_)
              have at_141 := va_at.keptC at_141 o_158 k_a0 rfl
              obtain ⟨x_159, e_160⟩ : ∃ y : Int32, y = yk + Int32.ofInt 1 := ⟨_, rfl⟩
              have i_x_159 : x_159.toInt = yk.toInt + 1 := by rw [e_160, show Int32.ofInt 1 = 1 by decide]; exact (q_add (by rw [show (1 : Int32).toInt = 1 by decide]; omega) (by rw [show (1 : Int32).toInt = 1 by decide]; omega)).trans (by rw [show (1 : Int32).toInt = 1 by decide])
              refine lv_iinc (v := x_159) (lv' := [(2, .int x_159), (0, .ref a0), (1, .int a1)]) hx hb dX9_run_61 hl (k := 0) rfl e_160.symm (by decide) rfl (fun ls hl => ?_)
              refine lv_goto (tgt := 41) hx hb dX9_run_64 (by decide) ?_
              exfalso; omega
          | succ k ih =>
            intro yk g H locs ls hk v0 v1 v2 hG hS hl
            refine (hWW _ _ _).mpr ?_
            refine lv_iload_n hx hb dX9_run_41 rfl (lv_at hl 0 rfl) ?_
            refine lv_iload_n hx hb dX9_run_42 rfl (lv_at hl 2 rfl) ?_
            refine lv_icmp_ge (tgt := 67) hx hb dX9_run_43 (by decide) (fun c_161 => ?_) (fun c_161 => ?_)
            · skip
              have c_161 : a1.toInt ≤ yk.toInt := q_le c_161
              exact (hWW _ _ _).mp (kx yk g H locs ls (by omega) (by omega) (by omega) hG hS (lv_sub hl [0, 1, 2] rfl))
            · skip
              have c_161 : yk.toInt < a1.toInt := q_nle c_161
              refine lv_pc (pc2 := 46) rfl ?_
              refine lv_aload_n hx hb dX9_run_46 rfl (lv_at hl 1 rfl) ?_
              obtain ⟨r_162, r_164, r_166, r_168, v_170, v_171, r_172, r_174, r_176, r_178, r_180, r_182, r_184, v_186, r_188, r_190, r_192, r_194, at_196, h_163, h_165, h_167, h_169, h_173, h_175, h_177, h_179, h_181, h_183, h_185, h_187, h_189, h_191, h_193, h_195⟩ := gF_o1 hG k_a0
              refine va_get (D := D) (ci := 8) (v := .ref r_178) (C := RX9) (T := TX9) (N := 18) hx hb hts in9 hown hK (va_one at_196) 0 rfl rfl 9 (by decide) (hts (.fieldLink RX9 53 "RiverModel" "now" "LRiverModel$Course;") (List.mem_of_getElem? (i := 5) rfl)) (fun _ h9 => h9) rfl dX9_run_47 ?_
              refine lv_aload_n hx hb dX9_run_50 rfl (lv_at hl 1 rfl) ?_
              refine va_get (D := D) (ci := 8) (v := .ref r_164) (C := RX9) (T := TX9) (N := 18) hx hb hts in9 hown hK (va_one at_196) 0 rfl rfl 1 (by decide) (hts (.fieldLink RX9 19 "RiverModel" "model" "LRiverModel$Model;") (List.mem_of_getElem? (i := 7) rfl)) (fun _ h9 => h9) rfl dX9_run_51 ?_
              refine lv_aload_n hx hb dX9_run_54 rfl (lv_at hl 1 rfl) ?_
              refine va_get (D := D) (ci := 8) (v := .ref r_172) (C := RX9) (T := TX9) (N := 18) hx hb hts in9 hown hK (va_one at_196) 0 rfl rfl 6 (by decide) (hts (.fieldLink RX9 39 "RiverModel" "skyA" "LRiverModel$Sky;") (List.mem_of_getElem? (i := 8) rfl)) (fun _ h9 => h9) rfl dX9_run_55 ?_
              obtain ⟨r_197, r_199, r_201, r_203, v_205, v_206, v_207, v_208, at_210, h_198, h_200, h_202, h_204, h_209⟩ := gF_o5 hG h_179
              refine ty_callv ((W.runV (As := [.ref r_164, .ref r_172]) (rest := []) ⟨hx, hb, hml, hown, hts⟩ (s_X0_goHourBy l D t cI cL cC gC gE g gW gA r_178 r_164 r_172 (by omega) h_179 h_165 h_173) (cwV 2 hts gu_X9_run_X0_goHourBy_151 rfl rfl rfl (by decide +kernel) ⟨Nat.le_of_ble_eq_true rfl, Nat.le_of_ble_eq_true rfl⟩) (tP_V hG hE at_210 rfl) rfl rfl hl.1 rfl (lv_room (Nat.le_of_ble_eq_true rfl)) dX9_run_58 ⟨Nat.le_of_ble_eq_true rfl, Nat.le_of_ble_eq_true rfl⟩)) hS (fun _ h => h) (fun H locs hp_212 hG hS o_213 => ?_)
              have at_196 := va_at.keptC at_196 o_213 k_a0 rfl
              obtain ⟨x_214, e_215⟩ : ∃ y : Int32, y = yk + Int32.ofInt 1 := ⟨_, rfl⟩
              have i_x_214 : x_214.toInt = yk.toInt + 1 := by rw [e_215, show Int32.ofInt 1 = 1 by decide]; exact (q_add (by rw [show (1 : Int32).toInt = 1 by decide]; omega) (by rw [show (1 : Int32).toInt = 1 by decide]; omega)).trans (by rw [show (1 : Int32).toInt = 1 by decide])
              refine lv_iinc (v := x_214) (lv' := [(2, .int x_214), (0, .ref a0), (1, .int a1)]) hx hb dX9_run_61 hl (k := 0) rfl e_215.symm (by decide) rfl (fun ls hl => ?_)
              refine lv_pc (pc2 := 64) rfl ?_
              refine lv_goto (tgt := 41) hx hb dX9_run_64 (by decide) ?_
              exact (hWW _ _ _).mp (ih x_214 (g + 1) H locs ls (by omega) (by omega) (by omega) (by omega) hG hS (lv_sub hl [0, 1, 2] rfl))
        have hz_yk : (0 : Int32).toInt = 0 := by decide
        exact loop (96 - 0 : Int).toNat 0 G H locs ls (by omega) (by omega) (by omega) (by omega) hG hS (lv_sub hl [0, 1, 2] rfl)
      · skip
        have c_56 : 96 < x_54.toInt := q_nle c_56
        refine lv_bipush (v := (-3)) hx hb dX9_run_36 (by decide) ?_
        exact ty_iret hx hb hr hlk (hG.weak (fun _ _ => gF_mono (by omega))) hS True.intro dX9_run_38
    · skip
      have c_39 : v_12.toInt = 0 := q_eq c_39
      refine lv_bipush (v := (-2)) hx hb dX9_run_19 (by decide) ?_
      exact ty_iret hx hb hr hlk (hG.weak (fun _ _ => gF_mono (by omega))) hS True.intro dX9_run_21

def uX9_chance : List Cond := .code yX9_chance cX9_chance 5 (some .int) :: ([.methodLink RX9 205 yX9_isNoGauge, .static yX9_isNoGauge, .initialized RX9, .methodLink RX9 99 yX9_isOutside, .static yX9_isOutside, .methodLink RX9 212 yX9_lacksGauge, .instanceMethod yX9_lacksGauge, .selects RX9 yX9_lacksGauge yX9_lacksGauge, .methodLink RX9 265 yX9_isBeyond, .instanceMethod yX9_isBeyond, .selects RX9 yX9_isBeyond yX9_isBeyond, .methodLink RX9 268 yX9_weightAbove, .instanceMethod yX9_weightAbove, .selects RX9 yX9_weightAbove yX9_weightAbove, .code yX9_isNoGauge cX9_isNoGauge 1 (some .boolean), .code yX9_isOutside cX9_isOutside 3 (some .boolean), .code yX9_lacksGauge cX9_lacksGauge 2 (some .boolean), .fieldLink RX9 29 "RiverModel" "isBuilt" "Z", .fieldLink RX9 74 "RiverModel" "gauges" "LRiverModel$Gauges;", .methodLink RX9 346 yX1_isSet, .instanceMethod yX1_isSet, .selects RX1 yX1_isSet yX1_isSet, .initialized RX1, .code yX1_isSet cX1_isSet 2 (some .boolean), .fieldLink RX1 9 "RiverModel$Gauges" "whats" "[I", .code yX9_isBeyond cX9_isBeyond 2 (some .boolean), .fieldLink RX9 53 "RiverModel" "now" "LRiverModel$Course;", .fieldLink RX9 144 "RiverModel$Course" "hours" "I", .code yX9_weightAbove cX9_weightAbove 8 (some .int), .fieldLink RX9 88 "RiverModel" "worlds" "LRiverModel$Worlds;", .fieldLink RX9 259 "RiverModel$Worlds" "weights" "[I", .methodLink RX9 275 yX9_peakAhead, .instanceMethod yX9_peakAhead, .selects RX9 yX9_peakAhead yX9_peakAhead, .code yX9_peakAhead cX9_peakAhead 9 (some .long), .fieldLink RX9 57 "RiverModel" "trial" "LRiverModel$Course;", .methodLink RX9 330 yX0_copyFrom, .instanceMethod yX0_copyFrom, .selects RX0 yX0_copyFrom yX0_copyFrom, .initialized RX0, .methodLink RX9 371 yX8_rainAhead, .instanceMethod yX8_rainAhead, .selects RX8 yX8_rainAhead yX8_rainAhead, .initialized RX8, .fieldLink RX9 19 "RiverModel" "model" "LRiverModel$Model;", .fieldLink RX9 39 "RiverModel" "skyA" "LRiverModel$Sky;", .methodLink RX9 360 yX6_tempIn, .instanceMethod yX6_tempIn, .selects RX6 yX6_tempIn yX6_tempIn, .initialized RX6, .methodLink RX9 363 yX0_goHour, .instanceMethod yX0_goHour, .selects RX0 yX0_goHour yX0_goHour, .methodLink RX9 215 yX1_reading, .instanceMethod yX1_reading, .selects RX1 yX1_reading yX1_reading, .methodLink RX9 374 Lib.MathLoose.max_long.x, .static Lib.MathLoose.max_long.x, .initialized "java/lang/Math", .code Lib.MathLoose.max_long.x Lib.MathLoose.max_long.code 4 (some .long), .methodLink RX9 357 yX6_rainIn, .instanceMethod yX6_rainIn, .selects RX6 yX6_rainIn yX6_rainIn, .code yX0_copyFrom cX0_copyFrom 2 none, .fieldLink RX0 9 "RiverModel$Course" "held" "[J", .methodLink RX0 54 arraycopyName, .native arraycopyName, .static arraycopyName, .initialized "java/lang/System", .fieldLink RX0 15 "RiverModel$Course" "moved" "[J", .fieldLink RX0 18 "RiverModel$Course" "openings" "[I", .fieldLink RX0 22 "RiverModel$Course" "due" "[J", .fieldLink RX0 25 "RiverModel$Course" "rained" "J", .fieldLink RX0 29 "RiverModel$Course" "air" "J", .fieldLink RX0 32 "RiverModel$Course" "sea" "J", .fieldLink RX0 35 "RiverModel$Course" "hours" "I", .code yX8_rainAhead cX8_rainAhead 3 (some .int), .static yX9_isNoWorld, .fieldLink RX8 18 "RiverModel$Worlds" "rains" "[I", .code yX9_isNoWorld cX9_isNoWorld 1 (some .boolean), .code yX6_tempIn cX6_tempIn 2 (some .int), .fieldLink RX6 15 "RiverModel$Sky" "temps" "[I", .code yX0_goHour cX0_goHour 7 none, .methodLink RX0 72 yX0_bringDue, .instanceMethod yX0_bringDue, .selects RX0 yX0_bringDue yX0_bringDue, .fieldLink RX0 75 "RiverModel$Model" "many" "I", .methodLink RX0 78 yX0_amountOf, .instanceMethod yX0_amountOf, .selects RX0 yX0_amountOf yX0_amountOf, .methodLink RX0 82 yX0_move, .instanceMethod yX0_move, .selects RX0 yX0_move yX0_move, .code yX0_bringDue cX0_bringDue 3 none, .code yX0_amountOf cX0_amountOf 11 (some .long), .methodLink RX0 86 yX4_cell, .instanceMethod yX4_cell, .selects RX4 yX4_cell yX4_cell, .initialized RX4, .static yX9_isNoStore, .methodLink RX0 110 yX4_gateOf, .instanceMethod yX4_gateOf, .selects RX4 yX4_gateOf yX4_gateOf, .methodLink RX0 113 yX0_openingOf, .instanceMethod yX0_openingOf, .selects RX0 yX0_openingOf yX0_openingOf, .methodLink RX0 107 Lib.MathLoose.min_long.x, .static Lib.MathLoose.min_long.x, .code Lib.MathLoose.min_long.x Lib.MathLoose.min_long.code 4 (some .long), .methodLink RX0 94 yX0_leakOf, .static yX0_leakOf, .constantLong RX0 117 (100), .methodLink RX0 98 yX4_capacityOf, .instanceMethod yX4_capacityOf, .selects RX4 yX4_capacityOf yX4_capacityOf, .methodLink RX0 101 Lib.MathLoose.max_long.x, .constantLong RX0 119 (10), .code yX4_cell cX4_cell 3 (some .int), .fieldLink RX4 9 "RiverModel$Model" "cells" "[I", .code yX9_isNoStore cX9_isNoStore 1 (some .boolean), .code yX4_gateOf cX4_gateOf 3 (some .int), .fieldLink RX4 28 "RiverModel$Model" "gates" "I", .fieldLink RX4 18 "RiverModel$Model" "gateItems" "[I", .code yX0_openingOf cX0_openingOf 2 (some .long), .static yX9_isNoGate, .code yX9_isNoGate cX9_isNoGate 1 (some .boolean), .code yX0_leakOf cX0_leakOf 8 (some .long), .code yX4_capacityOf cX4_capacityOf 2 (some .int), .methodLink RX4 66 yX4_hasStore, .instanceMethod yX4_hasStore, .selects RX4 yX4_hasStore yX4_hasStore, .fieldLink RX4 15 "RiverModel$Model" "storeItems" "[I", .methodLink RX4 73 yX4_cell, .code yX4_hasStore cX4_hasStore 2 (some .boolean), .code yX0_move cX0_move 8 none, .methodLink RX0 124 yX0_send, .instanceMethod yX0_send, .selects RX0 yX0_send yX0_send, .code yX0_send cX0_send 5 none, .code yX1_reading cX1_reading 4 (some .long), .methodLink RX1 35 yX1_isSet, .fieldLink RX1 15 "RiverModel$Gauges" "places" "[I", .fieldLink RX1 50 "RiverModel$Course" "held" "[J", .static yX9_isNoItem, .fieldLink RX1 41 "RiverModel$Course" "moved" "[J", .code yX9_isNoItem cX9_isNoItem 1 (some .boolean), .code yX6_rainIn cX6_rainIn 2 (some .int), .fieldLink RX6 9 "RiverModel$Sky" "rains" "[I"] ++ wsX90 ++ wsX10 ++ wsX00 ++ wsX80 ++ wsX60 ++ wsX40)
set_option maxRecDepth 20000 in
theorem gu_X9_chance_X9_isNoGauge_205 : GoodIn uX9_chance (va_wsS RX9 205 yX9_isNoGauge uX9_isNoGauge) := goodIn_r _ [1, 2, 3, 15] rfl (by decide +kernel)
set_option maxRecDepth 20000 in
theorem gu_X9_chance_X9_isOutside_99 : GoodIn uX9_chance (va_wsS RX9 99 yX9_isOutside uX9_isOutside) := goodIn_r _ [4, 5, 3, 16] rfl (by decide +kernel)
set_option maxRecDepth 20000 in
theorem gu_X9_chance_X9_lacksGauge_212 : GoodIn uX9_chance (wsV RX9 212 RX9 yX9_lacksGauge uX9_lacksGauge) := goodIn_r _ [6, 7, 8, 3, 17, 18, 19, 20, 21, 22, 23, 24, 25, 149, 150, 151, 152, 153, 154, 155, 156, 157, 158, 159, 160, 161, 162, 163, 164, 165, 166, 167, 168, 169, 170] rfl (by decide +kernel)
set_option maxRecDepth 20000 in
theorem gu_X9_chance_X9_isBeyond_265 : GoodIn uX9_chance (wsV RX9 265 RX9 yX9_isBeyond uX9_isBeyond) := goodIn_r _ [9, 10, 11, 3, 26, 27, 28, 149, 150, 151, 152, 153, 154, 155, 156, 157, 158, 159, 160, 161, 162, 163, 164, 165, 166, 171, 172, 173, 174, 175, 176, 177, 178] rfl (by decide +kernel)
set_option maxRecDepth 20000 in
theorem gu_X9_chance_X9_weightAbove_268 : GoodIn uX9_chance (wsV RX9 268 RX9 yX9_weightAbove uX9_weightAbove) := goodIn_r _ [12, 13, 14, 3, 29, 30, 31, 32, 33, 34, 3, 35, 36, 27, 37, 38, 39, 40, 28, 41, 42, 43, 44, 45, 46, 47, 48, 49, 50, 51, 52, 53, 19, 54, 55, 56, 23, 57, 58, 59, 60, 61, 62, 63, 64, 65, 66, 67, 68, 69, 70, 71, 72, 73, 74, 75, 76, 77, 78, 5, 79, 80, 16, 81, 82, 83, 84, 85, 86, 87, 88, 89, 90, 91, 92, 93, 94, 95, 96, 97, 98, 99, 100, 101, 102, 103, 104, 105, 106, 107, 108, 109, 110, 111, 112, 113, 114, 115, 116, 117, 118, 119, 120, 121, 122, 123, 124, 125, 126, 127, 128, 129, 130, 131, 132, 133, 134, 135, 136, 137, 138, 139, 140, 141, 21, 22, 142, 25, 143, 144, 145, 24, 146, 147, 148, 149, 150, 151, 152, 153, 154, 155, 156, 157, 158, 159, 160, 161, 162, 163, 164, 165, 166, 179, 180, 181, 171, 172, 173, 174, 175, 176, 177, 178, 182, 183, 184, 185, 186, 187, 188, 189, 167, 168, 169, 170] rfl (by decide +kernel)
set_option maxHeartbeats 4000000 in
set_option maxRecDepth 100000 in
theorem s_X9_chance (l : Launch) (D : va_G) (t : Nat → Nat) (cI cL cC : ClassId) (gC : Int32) (gE : Int32) (G : Nat) (gW : Nat → Int32) (gA : Nat → Int32) (a0 : Nat) (a1 : Int32) (a2 : Int32) (a3 : Int64) (hGb : G ≤ 100000000) (k_a0 : t a0 = 1) : tM l yX9_chance uX9_chance 6 154 D (gF cI cL cC gC gE G gW gA) (gF cI cL cC gC gE (G + 96) gW gA) t cI cL cC [.ref a0, .int a1, .int a2, .long a3] wrC (pI (fun r => True)) := by
  refine tM.ofW (cc := cX9_chance) (maxL := 5) (ret := (some .int)) (by decide) rfl (Nat.le_of_ble_eq_true rfl) ?_
  intro p e s m below meth c hx hb hr hml hown hts hlk H locs hG hK hE hS ls hl
  have hl : lv_has ls 5 [(0, .ref a0), (1, .int a1), (2, .int a2), (3, .long a3)] := hl
  skip
  refine lv_iload_n hx hb dX9_chance_0 rfl (lv_at hl 1 rfl) ?_
  refine ty_calli ((W.runS (As := [.int a1]) (rest := []) ⟨hx, hb, hml, hown, hts⟩ (s_X9_isNoGauge l D t cI cL cC gC gE G gW gA a1 ) (va_cwS 1 hts gu_X9_chance_X9_isNoGauge_205 rfl rfl rfl (by decide +kernel) ⟨Nat.le_of_ble_eq_true rfl, Nat.le_of_ble_eq_true rfl⟩) (tP_S hG hE) rfl rfl hl.1 rfl (lv_room (Nat.le_of_ble_eq_true rfl)) dX9_chance_1 ⟨Nat.le_of_ble_eq_true rfl, Nat.le_of_ble_eq_true rfl⟩)) hS (fun k h => by simp [wr0] at h) (fun r_1 H locs hp_2 hG hS o_3 => ?_)
  rcases hp_2 with ⟨rfl, hc_199⟩ | ⟨rfl, hc_200, hc_201⟩
  · skip
    refine lv_if_ne (tgt := 17) hx hb dX9_chance_4 (by decide) (fun _ => ?_) (fun q => absurd q (by decide))
    refine lv_iconst (v := (-1)) hx hb dX9_chance_17 (by decide) ?_
    exact ty_iret hx hb hr hlk (hG.weak (fun _ _ => gF_mono (by omega))) hS True.intro dX9_chance_18
  · skip
    refine lv_if_ne (tgt := 17) hx hb dX9_chance_4 (by decide) (fun q => absurd rfl q) (fun _ => ?_)
    refine lv_iload_n hx hb dX9_chance_7 rfl (lv_at hl 2 rfl) ?_
    refine lv_pc (pc2 := 8) rfl ?_
    refine lv_iconst (v := 1) hx hb dX9_chance_8 (by decide) ?_
    refine lv_bipush (v := 24) hx hb dX9_chance_9 (by decide) ?_
    refine ty_calli ((W.runS (As := [.int a2, .int 1, .int 24]) (rest := []) ⟨hx, hb, hml, hown, hts⟩ (s_X9_isOutside l D t cI cL cC gC gE G gW gA a2 1 24 1 24 (by decide) (by decide) ) (va_cwS 3 hts gu_X9_chance_X9_isOutside_99 rfl rfl rfl (by decide +kernel) ⟨Nat.le_of_ble_eq_true rfl, Nat.le_of_ble_eq_true rfl⟩) (tP_S hG hE) rfl rfl hl.1 rfl (lv_room (Nat.le_of_ble_eq_true rfl)) dX9_chance_11 ⟨Nat.le_of_ble_eq_true rfl, Nat.le_of_ble_eq_true rfl⟩)) hS (fun k h => by simp [wr0] at h) (fun r_4 H locs hp_5 hG hS o_6 => ?_)
    rcases hp_5 with ⟨rfl, hc_202⟩ | ⟨rfl, hc_203, hc_204⟩
    · skip
      refine lv_if_eq (tgt := 19) hx hb dX9_chance_14 (by decide) (fun q => absurd q (by decide)) (fun _ => ?_)
      refine lv_iconst (v := (-1)) hx hb dX9_chance_17 (by decide) ?_
      exact ty_iret hx hb hr hlk (hG.weak (fun _ _ => gF_mono (by omega))) hS True.intro dX9_chance_18
    · skip
      refine lv_if_eq (tgt := 19) hx hb dX9_chance_14 (by decide) (fun _ => ?_) (fun q => absurd (by decide) q)
      refine lv_aload_n hx hb dX9_chance_19 rfl (lv_at hl 0 rfl) ?_
      refine lv_pc (pc2 := 20) rfl ?_
      refine lv_iload_n hx hb dX9_chance_20 rfl (lv_at hl 1 rfl) ?_
      obtain ⟨r_7, r_9, r_11, r_13, v_15, v_16, r_17, r_19, r_21, r_23, r_25, r_27, r_29, v_31, r_33, r_35, r_37, r_39, at_41, h_8, h_10, h_12, h_14, h_18, h_20, h_22, h_24, h_26, h_28, h_30, h_32, h_34, h_36, h_38, h_40⟩ := gF_o1 hG k_a0
      refine ty_calli ((W.runV (As := [.int a1]) (rest := []) ⟨hx, hb, hml, hown, hts⟩ (s_X9_lacksGauge l D t cI cL cC gC gE G gW gA a0 a1 k_a0) (cwV 1 hts gu_X9_chance_X9_lacksGauge_212 rfl rfl rfl (by decide +kernel) ⟨Nat.le_of_ble_eq_true rfl, Nat.le_of_ble_eq_true rfl⟩) (tP_V hG hE at_41 rfl) rfl rfl hl.1 rfl (lv_room (Nat.le_of_ble_eq_true rfl)) dX9_chance_21 ⟨Nat.le_of_ble_eq_true rfl, Nat.le_of_ble_eq_true rfl⟩)) hS (fun k h => by simp [wr0] at h) (fun r_42 H locs hp_43 hG hS o_44 => ?_)
      have at_41 := va_at.keptC at_41 o_44 k_a0 rfl
      rcases hp_43 with rfl | rfl
      · skip
        refine lv_if_ne (tgt := 35) hx hb dX9_chance_24 (by decide) (fun q => absurd rfl q) (fun _ => ?_)
        refine lv_aload_n hx hb dX9_chance_27 rfl (lv_at hl 0 rfl) ?_
        refine lv_iload_n hx hb dX9_chance_28 rfl (lv_at hl 2 rfl) ?_
        refine ty_calli ((W.runV (As := [.int a2]) (rest := []) ⟨hx, hb, hml, hown, hts⟩ (s_X9_isBeyond l D t cI cL cC gC gE G gW gA a0 a2 k_a0) (cwV 1 hts gu_X9_chance_X9_isBeyond_265 rfl rfl rfl (by decide +kernel) ⟨Nat.le_of_ble_eq_true rfl, Nat.le_of_ble_eq_true rfl⟩) (tP_V hG hE at_41 rfl) rfl rfl hl.1 rfl (lv_room (Nat.le_of_ble_eq_true rfl)) dX9_chance_29 ⟨Nat.le_of_ble_eq_true rfl, Nat.le_of_ble_eq_true rfl⟩)) hS (fun k h => by simp [wr0] at h) (fun r_45 H locs hp_46 hG hS o_47 => ?_)
        have at_41 := va_at.keptC at_41 o_47 k_a0 rfl
        rcases hp_46 with rfl | rfl
        · skip
          refine lv_if_eq (tgt := 40) hx hb dX9_chance_32 (by decide) (fun _ => ?_) (fun q => absurd (by decide) q)
          refine lv_aload_n hx hb dX9_chance_40 rfl (lv_at hl 0 rfl) ?_
          refine lv_pc (pc2 := 41) rfl ?_
          refine lv_iload_n hx hb dX9_chance_41 rfl (lv_at hl 1 rfl) ?_
          refine lv_iload_n hx hb dX9_chance_42 rfl (lv_at hl 2 rfl) ?_
          refine lv_lload_n hx hb dX9_chance_43 rfl (lv_at hl 3 rfl) ?_
          refine ty_calli ((W.runV (As := [.int a1, .int a2, .long a3]) (rest := []) ⟨hx, hb, hml, hown, hts⟩ (s_X9_weightAbove l D t cI cL cC gC gE G gW gA a0 a1 a2 a3 (by omega) (by omega) k_a0) (cwV 3 hts gu_X9_chance_X9_weightAbove_268 rfl rfl rfl (by decide +kernel) ⟨Nat.le_of_ble_eq_true rfl, Nat.le_of_ble_eq_true rfl⟩) (tP_V hG hE at_41 rfl) rfl rfl hl.1 rfl (lv_room (Nat.le_of_ble_eq_true rfl)) dX9_chance_44 ⟨Nat.le_of_ble_eq_true rfl, Nat.le_of_ble_eq_true rfl⟩)) hS (fun _ h => h) (fun r_48 H locs hp_49 hG hS o_50 => ?_)
          have at_41 := va_at.keptC at_41 o_50 k_a0 rfl
          exact ty_iret hx hb hr hlk hG hS True.intro dX9_chance_47
        · skip
          refine lv_if_eq (tgt := 40) hx hb dX9_chance_32 (by decide) (fun q => absurd q (by decide)) (fun _ => ?_)
          refine lv_bipush (v := (-2)) hx hb dX9_chance_35 (by decide) ?_
          refine lv_goto (tgt := 47) hx hb dX9_chance_37 (by decide) ?_
          refine lv_pc (pc2 := 47) rfl ?_
          exact ty_iret hx hb hr hlk (hG.weak (fun _ _ => gF_mono (by omega))) hS True.intro dX9_chance_47
      · skip
        refine lv_if_ne (tgt := 35) hx hb dX9_chance_24 (by decide) (fun _ => ?_) (fun q => absurd q (by decide))
        refine lv_bipush (v := (-2)) hx hb dX9_chance_35 (by decide) ?_
        refine lv_goto (tgt := 47) hx hb dX9_chance_37 (by decide) ?_
        exact ty_iret hx hb hr hlk (hG.weak (fun _ _ => gF_mono (by omega))) hS True.intro dX9_chance_47

def uX9_warn : List Cond := .code yX9_warn cX9_warn 8 (some .int) :: ([.methodLink RX9 205 yX9_isNoGauge, .static yX9_isNoGauge, .initialized RX9, .methodLink RX9 99 yX9_isOutside, .static yX9_isOutside, .methodLink RX9 212 yX9_lacksGauge, .instanceMethod yX9_lacksGauge, .selects RX9 yX9_lacksGauge yX9_lacksGauge, .methodLink RX9 265 yX9_isBeyond, .instanceMethod yX9_isBeyond, .selects RX9 yX9_isBeyond yX9_isBeyond, .methodLink RX9 268 yX9_weightAbove, .instanceMethod yX9_weightAbove, .selects RX9 yX9_weightAbove yX9_weightAbove, .fieldLink RX9 88 "RiverModel" "worlds" "LRiverModel$Worlds;", .methodLink RX9 272 yX8_weightOfAll, .instanceMethod yX8_weightOfAll, .selects RX8 yX8_weightOfAll yX8_weightOfAll, .initialized RX8, .methodLink RX9 275 yX9_peakAhead, .instanceMethod yX9_peakAhead, .selects RX9 yX9_peakAhead yX9_peakAhead, .methodLink RX9 279 yX8_enter, .instanceMethod yX8_enter, .selects RX8 yX8_enter yX8_enter, .code yX9_isNoGauge cX9_isNoGauge 1 (some .boolean), .code yX9_isOutside cX9_isOutside 3 (some .boolean), .code yX9_lacksGauge cX9_lacksGauge 2 (some .boolean), .fieldLink RX9 29 "RiverModel" "isBuilt" "Z", .fieldLink RX9 74 "RiverModel" "gauges" "LRiverModel$Gauges;", .methodLink RX9 346 yX1_isSet, .instanceMethod yX1_isSet, .selects RX1 yX1_isSet yX1_isSet, .initialized RX1, .code yX1_isSet cX1_isSet 2 (some .boolean), .fieldLink RX1 9 "RiverModel$Gauges" "whats" "[I", .code yX9_isBeyond cX9_isBeyond 2 (some .boolean), .fieldLink RX9 53 "RiverModel" "now" "LRiverModel$Course;", .fieldLink RX9 144 "RiverModel$Course" "hours" "I", .code yX9_weightAbove cX9_weightAbove 8 (some .int), .fieldLink RX9 259 "RiverModel$Worlds" "weights" "[I", .code yX9_peakAhead cX9_peakAhead 9 (some .long), .fieldLink RX9 57 "RiverModel" "trial" "LRiverModel$Course;", .methodLink RX9 330 yX0_copyFrom, .instanceMethod yX0_copyFrom, .selects RX0 yX0_copyFrom yX0_copyFrom, .initialized RX0, .methodLink RX9 371 yX8_rainAhead, .instanceMethod yX8_rainAhead, .selects RX8 yX8_rainAhead yX8_rainAhead, .fieldLink RX9 19 "RiverModel" "model" "LRiverModel$Model;", .fieldLink RX9 39 "RiverModel" "skyA" "LRiverModel$Sky;", .methodLink RX9 360 yX6_tempIn, .instanceMethod yX6_tempIn, .selects RX6 yX6_tempIn yX6_tempIn, .initialized RX6, .methodLink RX9 363 yX0_goHour, .instanceMethod yX0_goHour, .selects RX0 yX0_goHour yX0_goHour, .methodLink RX9 215 yX1_reading, .instanceMethod yX1_reading, .selects RX1 yX1_reading yX1_reading, .methodLink RX9 374 Lib.MathLoose.max_long.x, .static Lib.MathLoose.max_long.x, .initialized "java/lang/Math", .code Lib.MathLoose.max_long.x Lib.MathLoose.max_long.code 4 (some .long), .methodLink RX9 357 yX6_rainIn, .instanceMethod yX6_rainIn, .selects RX6 yX6_rainIn yX6_rainIn, .code yX0_copyFrom cX0_copyFrom 2 none, .fieldLink RX0 9 "RiverModel$Course" "held" "[J", .methodLink RX0 54 arraycopyName, .native arraycopyName, .static arraycopyName, .initialized "java/lang/System", .fieldLink RX0 15 "RiverModel$Course" "moved" "[J", .fieldLink RX0 18 "RiverModel$Course" "openings" "[I", .fieldLink RX0 22 "RiverModel$Course" "due" "[J", .fieldLink RX0 25 "RiverModel$Course" "rained" "J", .fieldLink RX0 29 "RiverModel$Course" "air" "J", .fieldLink RX0 32 "RiverModel$Course" "sea" "J", .fieldLink RX0 35 "RiverModel$Course" "hours" "I", .code yX8_rainAhead cX8_rainAhead 3 (some .int), .static yX9_isNoWorld, .fieldLink RX8 18 "RiverModel$Worlds" "rains" "[I", .code yX9_isNoWorld cX9_isNoWorld 1 (some .boolean), .code yX6_tempIn cX6_tempIn 2 (some .int), .fieldLink RX6 15 "RiverModel$Sky" "temps" "[I", .code yX0_goHour cX0_goHour 7 none, .methodLink RX0 72 yX0_bringDue, .instanceMethod yX0_bringDue, .selects RX0 yX0_bringDue yX0_bringDue, .fieldLink RX0 75 "RiverModel$Model" "many" "I", .methodLink RX0 78 yX0_amountOf, .instanceMethod yX0_amountOf, .selects RX0 yX0_amountOf yX0_amountOf, .methodLink RX0 82 yX0_move, .instanceMethod yX0_move, .selects RX0 yX0_move yX0_move, .code yX0_bringDue cX0_bringDue 3 none, .code yX0_amountOf cX0_amountOf 11 (some .long), .methodLink RX0 86 yX4_cell, .instanceMethod yX4_cell, .selects RX4 yX4_cell yX4_cell, .initialized RX4, .static yX9_isNoStore, .methodLink RX0 110 yX4_gateOf, .instanceMethod yX4_gateOf, .selects RX4 yX4_gateOf yX4_gateOf, .methodLink RX0 113 yX0_openingOf, .instanceMethod yX0_openingOf, .selects RX0 yX0_openingOf yX0_openingOf, .methodLink RX0 107 Lib.MathLoose.min_long.x, .static Lib.MathLoose.min_long.x, .code Lib.MathLoose.min_long.x Lib.MathLoose.min_long.code 4 (some .long), .methodLink RX0 94 yX0_leakOf, .static yX0_leakOf, .constantLong RX0 117 (100), .methodLink RX0 98 yX4_capacityOf, .instanceMethod yX4_capacityOf, .selects RX4 yX4_capacityOf yX4_capacityOf, .methodLink RX0 101 Lib.MathLoose.max_long.x, .constantLong RX0 119 (10), .code yX4_cell cX4_cell 3 (some .int), .fieldLink RX4 9 "RiverModel$Model" "cells" "[I", .code yX9_isNoStore cX9_isNoStore 1 (some .boolean), .code yX4_gateOf cX4_gateOf 3 (some .int), .fieldLink RX4 28 "RiverModel$Model" "gates" "I", .fieldLink RX4 18 "RiverModel$Model" "gateItems" "[I", .code yX0_openingOf cX0_openingOf 2 (some .long), .static yX9_isNoGate, .code yX9_isNoGate cX9_isNoGate 1 (some .boolean), .code yX0_leakOf cX0_leakOf 8 (some .long), .code yX4_capacityOf cX4_capacityOf 2 (some .int), .methodLink RX4 66 yX4_hasStore, .instanceMethod yX4_hasStore, .selects RX4 yX4_hasStore yX4_hasStore, .fieldLink RX4 15 "RiverModel$Model" "storeItems" "[I", .methodLink RX4 73 yX4_cell, .code yX4_hasStore cX4_hasStore 2 (some .boolean), .code yX0_move cX0_move 8 none, .methodLink RX0 124 yX0_send, .instanceMethod yX0_send, .selects RX0 yX0_send yX0_send, .code yX0_send cX0_send 5 none, .code yX1_reading cX1_reading 4 (some .long), .methodLink RX1 35 yX1_isSet, .fieldLink RX1 15 "RiverModel$Gauges" "places" "[I", .fieldLink RX1 50 "RiverModel$Course" "held" "[J", .static yX9_isNoItem, .fieldLink RX1 41 "RiverModel$Course" "moved" "[J", .code yX9_isNoItem cX9_isNoItem 1 (some .boolean), .code yX6_rainIn cX6_rainIn 2 (some .int), .fieldLink RX6 9 "RiverModel$Sky" "rains" "[I", .code yX8_weightOfAll cX8_weightOfAll 3 (some .int), .fieldLink RX8 9 "RiverModel$Worlds" "weights" "[I", .code yX8_enter cX8_enter 3 none, .fieldLink RX8 15 "RiverModel$Worlds" "warnings" "[I"] ++ wsX90 ++ wsX10 ++ wsX00 ++ wsX80 ++ wsX60 ++ wsX40)
set_option maxRecDepth 20000 in
theorem gu_X9_warn_X9_isNoGauge_205 : GoodIn uX9_warn (va_wsS RX9 205 yX9_isNoGauge uX9_isNoGauge) := goodIn_r _ [1, 2, 3, 26] rfl (by decide +kernel)
set_option maxRecDepth 20000 in
theorem gu_X9_warn_X9_isOutside_99 : GoodIn uX9_warn (va_wsS RX9 99 yX9_isOutside uX9_isOutside) := goodIn_r _ [4, 5, 3, 27] rfl (by decide +kernel)
set_option maxRecDepth 20000 in
theorem gu_X9_warn_X9_lacksGauge_212 : GoodIn uX9_warn (wsV RX9 212 RX9 yX9_lacksGauge uX9_lacksGauge) := goodIn_r _ [6, 7, 8, 3, 28, 29, 30, 31, 32, 33, 34, 35, 36, 159, 160, 161, 162, 163, 164, 165, 166, 167, 168, 169, 170, 171, 172, 173, 174, 175, 176, 177, 178, 179, 180] rfl (by decide +kernel)
set_option maxRecDepth 20000 in
theorem gu_X9_warn_X9_isBeyond_265 : GoodIn uX9_warn (wsV RX9 265 RX9 yX9_isBeyond uX9_isBeyond) := goodIn_r _ [9, 10, 11, 3, 37, 38, 39, 159, 160, 161, 162, 163, 164, 165, 166, 167, 168, 169, 170, 171, 172, 173, 174, 175, 176, 181, 182, 183, 184, 185, 186, 187, 188] rfl (by decide +kernel)
set_option maxRecDepth 20000 in
theorem gu_X9_warn_X9_weightAbove_268 : GoodIn uX9_warn (wsV RX9 268 RX9 yX9_weightAbove uX9_weightAbove) := goodIn_r _ [12, 13, 14, 3, 40, 15, 41, 20, 21, 22, 3, 42, 43, 38, 44, 45, 46, 47, 39, 48, 49, 50, 19, 51, 52, 53, 54, 55, 56, 57, 58, 59, 30, 60, 61, 62, 34, 63, 64, 65, 66, 67, 68, 69, 70, 71, 72, 73, 74, 75, 76, 77, 78, 79, 80, 81, 82, 83, 84, 5, 85, 86, 27, 87, 88, 89, 90, 91, 92, 93, 94, 95, 96, 97, 98, 99, 100, 101, 102, 103, 104, 105, 106, 107, 108, 109, 110, 111, 112, 113, 114, 115, 116, 117, 118, 119, 120, 121, 122, 123, 124, 125, 126, 127, 128, 129, 130, 131, 132, 133, 134, 135, 136, 137, 138, 139, 140, 141, 142, 143, 144, 145, 146, 147, 32, 33, 148, 36, 149, 150, 151, 35, 152, 153, 154, 159, 160, 161, 162, 163, 164, 165, 166, 167, 168, 169, 170, 171, 172, 173, 174, 175, 176, 189, 190, 191, 181, 182, 183, 184, 185, 186, 187, 188, 192, 193, 194, 195, 196, 197, 198, 199, 177, 178, 179, 180] rfl (by decide +kernel)
set_option maxRecDepth 20000 in
theorem gu_X9_warn_X8_weightOfAll_272 : GoodIn uX9_warn (wsV RX9 272 RX8 yX8_weightOfAll uX8_weightOfAll) := goodIn_r _ [16, 17, 18, 19, 155, 156, 189, 190, 191] rfl (by decide +kernel)
set_option maxRecDepth 20000 in
theorem gu_X9_warn_X9_peakAhead_275 : GoodIn uX9_warn (wsV RX9 275 RX9 yX9_peakAhead uX9_peakAhead) := goodIn_r _ [20, 21, 22, 3, 42, 43, 38, 44, 45, 46, 47, 39, 15, 48, 49, 50, 19, 51, 52, 53, 54, 55, 56, 57, 58, 59, 30, 60, 61, 62, 34, 63, 64, 65, 66, 67, 68, 69, 70, 71, 72, 73, 74, 75, 76, 77, 78, 79, 80, 81, 82, 83, 3, 84, 5, 85, 86, 27, 87, 88, 89, 90, 91, 92, 93, 94, 95, 96, 97, 98, 99, 100, 101, 102, 103, 104, 105, 106, 107, 108, 109, 110, 111, 112, 113, 114, 115, 116, 117, 118, 119, 120, 121, 122, 123, 124, 125, 126, 127, 128, 129, 130, 131, 132, 133, 134, 135, 136, 137, 138, 139, 140, 141, 142, 143, 144, 145, 146, 147, 32, 33, 148, 36, 149, 150, 151, 35, 152, 153, 154, 159, 160, 161, 162, 163, 164, 165, 166, 167, 168, 169, 170, 171, 172, 173, 174, 175, 176, 181, 182, 183, 184, 185, 186, 187, 188, 189, 190, 191, 192, 193, 194, 195, 196, 197, 198, 199, 177, 178, 179, 180] rfl (by decide +kernel)
set_option maxRecDepth 20000 in
theorem gu_X9_warn_X8_enter_279 : GoodIn uX9_warn (wsV RX9 279 RX8 yX8_enter uX8_enter) := goodIn_r _ [23, 24, 25, 19, 157, 158, 189, 190, 191] rfl (by decide +kernel)
set_option maxHeartbeats 4000000 in
set_option maxRecDepth 100000 in
theorem s_X9_warn (l : Launch) (D : va_G) (t : Nat → Nat) (cI cL cC : ClassId) (gC : Int32) (gE : Int32) (G : Nat) (gW : Nat → Int32) (gA : Nat → Int32) (a0 : Nat) (a1 : Int32) (a2 : Int32) (a3 : Int64) (a4 : Int32) (hGb : G ≤ 100000000) (k_a0 : t a0 = 1) : tM l yX9_warn uX9_warn 6 154 D (gF cI cL cC gC gE G gW gA) (gF cI cL cC gC gE (G + 120) gW gA) t cI cL cC [.ref a0, .int a1, .int a2, .long a3, .int a4] wrWa (pI (fun r => True)) := by
  refine tM.ofW (cc := cX9_warn) (maxL := 8) (ret := (some .int)) (by decide) rfl (Nat.le_of_ble_eq_true rfl) ?_
  intro p e s m below meth c hx hb hr hml hown hts hlk H locs hG hK hE hS ls hl
  have hl : lv_has ls 8 [(0, .ref a0), (1, .int a1), (2, .int a2), (3, .long a3), (5, .int a4)] := hl
  have in9 : ∀ w ∈ wsX90, w ∈ uX9_warn := fun w h => List.mem_cons_of_mem _ (List.mem_append_left _ (List.mem_append_left _ (List.mem_append_left _ (List.mem_append_left _ (List.mem_append_left _ (List.mem_append_right _ h))))))
  refine lv_iload_n hx hb dX9_warn_0 rfl (lv_at hl 1 rfl) ?_
  refine ty_calli ((W.runS (As := [.int a1]) (rest := []) ⟨hx, hb, hml, hown, hts⟩ (s_X9_isNoGauge l D t cI cL cC gC gE G gW gA a1 ) (va_cwS 1 hts gu_X9_warn_X9_isNoGauge_205 rfl rfl rfl (by decide +kernel) ⟨Nat.le_of_ble_eq_true rfl, Nat.le_of_ble_eq_true rfl⟩) (tP_S hG hE) rfl rfl hl.1 rfl (lv_room (Nat.le_of_ble_eq_true rfl)) dX9_warn_1 ⟨Nat.le_of_ble_eq_true rfl, Nat.le_of_ble_eq_true rfl⟩)) hS (fun k h => by simp [wr0] at h) (fun r_1 H locs hp_2 hG hS o_3 => ?_)
  rcases hp_2 with ⟨rfl, hc_205⟩ | ⟨rfl, hc_206, hc_207⟩
  · skip
    refine lv_if_ne (tgt := 28) hx hb dX9_warn_4 (by decide) (fun _ => ?_) (fun q => absurd q (by decide))
    refine lv_iconst (v := (-1)) hx hb dX9_warn_28 (by decide) ?_
    exact ty_iret hx hb hr hlk (hG.weak (fun _ _ => gF_mono (by omega))) hS True.intro dX9_warn_29
  · skip
    refine lv_if_ne (tgt := 28) hx hb dX9_warn_4 (by decide) (fun q => absurd rfl q) (fun _ => ?_)
    refine lv_iload_n hx hb dX9_warn_7 rfl (lv_at hl 2 rfl) ?_
    refine lv_pc (pc2 := 8) rfl ?_
    refine lv_iconst (v := 1) hx hb dX9_warn_8 (by decide) ?_
    refine lv_bipush (v := 24) hx hb dX9_warn_9 (by decide) ?_
    refine ty_calli ((W.runS (As := [.int a2, .int 1, .int 24]) (rest := []) ⟨hx, hb, hml, hown, hts⟩ (s_X9_isOutside l D t cI cL cC gC gE G gW gA a2 1 24 1 24 (by decide) (by decide) ) (va_cwS 3 hts gu_X9_warn_X9_isOutside_99 rfl rfl rfl (by decide +kernel) ⟨Nat.le_of_ble_eq_true rfl, Nat.le_of_ble_eq_true rfl⟩) (tP_S hG hE) rfl rfl hl.1 rfl (lv_room (Nat.le_of_ble_eq_true rfl)) dX9_warn_11 ⟨Nat.le_of_ble_eq_true rfl, Nat.le_of_ble_eq_true rfl⟩)) hS (fun k h => by simp [wr0] at h) (fun r_4 H locs hp_5 hG hS o_6 => ?_)
    rcases hp_5 with ⟨rfl, hc_208⟩ | ⟨rfl, hc_209, hc_210⟩
    · skip
      refine lv_if_ne (tgt := 28) hx hb dX9_warn_14 (by decide) (fun _ => ?_) (fun q => absurd q (by decide))
      refine lv_iconst (v := (-1)) hx hb dX9_warn_28 (by decide) ?_
      exact ty_iret hx hb hr hlk (hG.weak (fun _ _ => gF_mono (by omega))) hS True.intro dX9_warn_29
    · skip
      refine lv_if_ne (tgt := 28) hx hb dX9_warn_14 (by decide) (fun q => absurd rfl q) (fun _ => ?_)
      refine lv_iload hx hb dX9_warn_17 (lv_at hl 4 rfl) ?_
      refine lv_pc (pc2 := 19) rfl ?_
      refine lv_iconst (v := 0) hx hb dX9_warn_19 (by decide) ?_
      refine lv_bipush (v := 100) hx hb dX9_warn_20 (by decide) ?_
      refine ty_calli ((W.runS (As := [.int a4, .int 0, .int 100]) (rest := []) ⟨hx, hb, hml, hown, hts⟩ (s_X9_isOutside l D t cI cL cC gC gE G gW gA a4 0 100 0 100 (by decide) (by decide) ) (va_cwS 3 hts gu_X9_warn_X9_isOutside_99 rfl rfl rfl (by decide +kernel) ⟨Nat.le_of_ble_eq_true rfl, Nat.le_of_ble_eq_true rfl⟩) (tP_S hG hE) rfl rfl hl.1 rfl (lv_room (Nat.le_of_ble_eq_true rfl)) dX9_warn_22 ⟨Nat.le_of_ble_eq_true rfl, Nat.le_of_ble_eq_true rfl⟩)) hS (fun k h => by simp [wr0] at h) (fun r_7 H locs hp_8 hG hS o_9 => ?_)
      rcases hp_8 with ⟨rfl, hc_211⟩ | ⟨rfl, hc_212, hc_213⟩
      · skip
        refine lv_if_eq (tgt := 30) hx hb dX9_warn_25 (by decide) (fun q => absurd q (by decide)) (fun _ => ?_)
        refine lv_iconst (v := (-1)) hx hb dX9_warn_28 (by decide) ?_
        exact ty_iret hx hb hr hlk (hG.weak (fun _ _ => gF_mono (by omega))) hS True.intro dX9_warn_29
      · skip
        refine lv_if_eq (tgt := 30) hx hb dX9_warn_25 (by decide) (fun _ => ?_) (fun q => absurd (by decide) q)
        refine lv_aload_n hx hb dX9_warn_30 rfl (lv_at hl 0 rfl) ?_
        refine lv_pc (pc2 := 31) rfl ?_
        refine lv_iload_n hx hb dX9_warn_31 rfl (lv_at hl 1 rfl) ?_
        obtain ⟨r_10, r_12, r_14, r_16, v_18, v_19, r_20, r_22, r_24, r_26, r_28, r_30, r_32, v_34, r_36, r_38, r_40, r_42, at_44, h_11, h_13, h_15, h_17, h_21, h_23, h_25, h_27, h_29, h_31, h_33, h_35, h_37, h_39, h_41, h_43⟩ := gF_o1 hG k_a0
        refine ty_calli ((W.runV (As := [.int a1]) (rest := []) ⟨hx, hb, hml, hown, hts⟩ (s_X9_lacksGauge l D t cI cL cC gC gE G gW gA a0 a1 k_a0) (cwV 1 hts gu_X9_warn_X9_lacksGauge_212 rfl rfl rfl (by decide +kernel) ⟨Nat.le_of_ble_eq_true rfl, Nat.le_of_ble_eq_true rfl⟩) (tP_V hG hE at_44 rfl) rfl rfl hl.1 rfl (lv_room (Nat.le_of_ble_eq_true rfl)) dX9_warn_32 ⟨Nat.le_of_ble_eq_true rfl, Nat.le_of_ble_eq_true rfl⟩)) hS (fun k h => by simp [wr0] at h) (fun r_45 H locs hp_46 hG hS o_47 => ?_)
        have at_44 := va_at.keptC at_44 o_47 k_a0 rfl
        rcases hp_46 with rfl | rfl
        · skip
          refine lv_if_ne (tgt := 46) hx hb dX9_warn_35 (by decide) (fun q => absurd rfl q) (fun _ => ?_)
          refine lv_aload_n hx hb dX9_warn_38 rfl (lv_at hl 0 rfl) ?_
          refine lv_iload_n hx hb dX9_warn_39 rfl (lv_at hl 2 rfl) ?_
          refine ty_calli ((W.runV (As := [.int a2]) (rest := []) ⟨hx, hb, hml, hown, hts⟩ (s_X9_isBeyond l D t cI cL cC gC gE G gW gA a0 a2 k_a0) (cwV 1 hts gu_X9_warn_X9_isBeyond_265 rfl rfl rfl (by decide +kernel) ⟨Nat.le_of_ble_eq_true rfl, Nat.le_of_ble_eq_true rfl⟩) (tP_V hG hE at_44 rfl) rfl rfl hl.1 rfl (lv_room (Nat.le_of_ble_eq_true rfl)) dX9_warn_40 ⟨Nat.le_of_ble_eq_true rfl, Nat.le_of_ble_eq_true rfl⟩)) hS (fun k h => by simp [wr0] at h) (fun r_48 H locs hp_49 hG hS o_50 => ?_)
          have at_44 := va_at.keptC at_44 o_50 k_a0 rfl
          rcases hp_49 with rfl | rfl
          · skip
            refine lv_if_eq (tgt := 49) hx hb dX9_warn_43 (by decide) (fun _ => ?_) (fun q => absurd (by decide) q)
            refine lv_aload_n hx hb dX9_warn_49 rfl (lv_at hl 0 rfl) ?_
            refine lv_pc (pc2 := 50) rfl ?_
            refine lv_iload_n hx hb dX9_warn_50 rfl (lv_at hl 1 rfl) ?_
            refine lv_iload_n hx hb dX9_warn_51 rfl (lv_at hl 2 rfl) ?_
            refine lv_lload_n hx hb dX9_warn_52 rfl (lv_at hl 3 rfl) ?_
            refine ty_calli ((W.runV (As := [.int a1, .int a2, .long a3]) (rest := []) ⟨hx, hb, hml, hown, hts⟩ (s_X9_weightAbove l D t cI cL cC gC gE G gW gA a0 a1 a2 a3 (by omega) (by omega) k_a0) (cwV 3 hts gu_X9_warn_X9_weightAbove_268 rfl rfl rfl (by decide +kernel) ⟨Nat.le_of_ble_eq_true rfl, Nat.le_of_ble_eq_true rfl⟩) (tP_V hG hE at_44 rfl) rfl rfl hl.1 rfl (lv_room (Nat.le_of_ble_eq_true rfl)) dX9_warn_53 ⟨Nat.le_of_ble_eq_true rfl, Nat.le_of_ble_eq_true rfl⟩)) hS (wrL_sub (by decide)) (fun r_51 H locs hp_52 hG hS o_53 => ?_)
            have at_44 := va_at.keptC at_44 o_53 k_a0 rfl
            refine lv_bipush (v := 100) hx hb dX9_warn_56 (by decide) ?_
            refine lv_imul hx hb dX9_warn_58 ?_
            refine lv_topi (fun x_54 e_55 => ?_)
            refine lv_iload hx hb dX9_warn_59 (lv_at hl 4 rfl) ?_
            refine lv_aload_n hx hb dX9_warn_61 rfl (lv_at hl 0 rfl) ?_
            refine lv_pc (pc2 := 62) rfl ?_
            refine va_get (D := D) (ci := 8) (v := .ref r_40) (C := RX9) (T := TX9) (N := 18) hx hb hts in9 hown hK (va_one at_44) 0 rfl rfl 16 (by decide) (hts (.fieldLink RX9 88 "RiverModel" "worlds" "LRiverModel$Worlds;") (List.mem_of_getElem? (i := 15) rfl)) (fun _ h9 => h9) rfl dX9_warn_62 ?_
            obtain ⟨r_56, r_58, r_60, at_62, h_57, h_59, h_61⟩ := gF_o8 hG h_41
            refine ty_calli ((W.runV (As := []) (rest := [.int a4, .int x_54]) ⟨hx, hb, hml, hown, hts⟩ (s_X8_weightOfAll l D t cI cL cC gC gE (G + 96) gW gA r_40 h_41) (cwV 0 hts gu_X9_warn_X8_weightOfAll_272 rfl rfl rfl (by decide +kernel) ⟨Nat.le_of_ble_eq_true rfl, Nat.le_of_ble_eq_true rfl⟩) (tP_V hG hE at_62 rfl) rfl rfl hl.1 rfl (lv_room (Nat.le_of_ble_eq_true rfl)) dX9_warn_65 ⟨Nat.le_of_ble_eq_true rfl, Nat.le_of_ble_eq_true rfl⟩)) hS (fun k h => by simp [wr0] at h) (fun r_63 H locs hp_64 hG hS o_65 => ?_)
            have at_44 := va_at.keptC at_44 o_65 k_a0 rfl
            have at_62 := va_at.keptC at_62 o_65 h_41 rfl
            refine lv_imul hx hb dX9_warn_68 ?_
            refine lv_topi (fun x_66 e_67 => ?_)
            refine lv_icmp_lt (tgt := 76) hx hb dX9_warn_69 (by decide) (fun c_68 => ?_) (fun c_68 => ?_)
            · skip
              have c_68 : x_54.toInt < x_66.toInt := q_lt c_68
              refine lv_iconst (v := 0) hx hb dX9_warn_76 (by decide) ?_
              refine lv_istore (lv' := [(6, .int 0), (0, .ref a0), (1, .int a1), (2, .int a2), (3, .long a3), (5, .int a4)]) hx hb dX9_warn_77 hl (by decide) rfl (fun ls hl => ?_)
              refine lv_aload_n hx hb dX9_warn_79 rfl (lv_at hl 1 rfl) ?_
              refine lv_iload_n hx hb dX9_warn_80 rfl (lv_at hl 2 rfl) ?_
              refine lv_pc (pc2 := 81) rfl ?_
              refine lv_iload_n hx hb dX9_warn_81 rfl (lv_at hl 3 rfl) ?_
              refine lv_iconst (v := (-1)) hx hb dX9_warn_82 (by decide) ?_
              refine ty_calll ((W.runV (As := [.int a1, .int a2, .int (-1)]) (rest := []) ⟨hx, hb, hml, hown, hts⟩ (s_X9_peakAhead l D t cI cL cC gC gE (G + 96) gW gA a0 a1 a2 (-1) (by omega) (by omega) k_a0) (cwV 3 hts gu_X9_warn_X9_peakAhead_275 rfl rfl rfl (by decide +kernel) ⟨Nat.le_of_ble_eq_true rfl, Nat.le_of_ble_eq_true rfl⟩) (tP_V hG hE at_44 rfl) rfl rfl hl.1 rfl (lv_room (Nat.le_of_ble_eq_true rfl)) dX9_warn_83 ⟨Nat.le_of_ble_eq_true rfl, Nat.le_of_ble_eq_true rfl⟩)) hS (wrL_sub (by decide)) (fun z_69 H locs hp_70 hG hS o_71 => ?_)
              have at_44 := va_at.keptC at_44 o_71 k_a0 rfl
              have at_62 := va_at.keptC at_62 o_71 h_41 rfl
              refine lv_lload_n hx hb dX9_warn_86 rfl (lv_at hl 4 rfl) ?_
              refine W.lcmp hx hb dX9_warn_87 ?_
              refine lv_if_le (tgt := 95) hx hb dX9_warn_88 (by decide) (fun c_72 => ?_) (fun c_72 => ?_)
              · skip
                have c_72 : z_69.toInt ≤ a3.toInt := q_cmp_le c_72
                refine lv_iconst (v := 0) hx hb dX9_warn_95 (by decide) ?_
                refine lv_istore (lv' := [(7, .int 0), (6, .int 0), (0, .ref a0), (1, .int a1), (2, .int a2), (3, .long a3), (5, .int a4)]) hx hb dX9_warn_96 hl (by decide) rfl (fun ls hl => ?_)
                refine lv_pc (pc2 := 98) rfl ?_
                refine lv_aload_n hx hb dX9_warn_98 rfl (lv_at hl 2 rfl) ?_
                refine va_get (D := D) (ci := 8) (v := .ref r_40) (C := RX9) (T := TX9) (N := 18) hx hb hts in9 hown hK (va_one at_44) 0 rfl rfl 16 (by decide) (hts (.fieldLink RX9 88 "RiverModel" "worlds" "LRiverModel$Worlds;") (List.mem_of_getElem? (i := 15) rfl)) (fun _ h9 => h9) rfl dX9_warn_99 ?_
                refine lv_iload hx hb dX9_warn_102 (lv_at hl 1 rfl) ?_
                refine lv_iload hx hb dX9_warn_104 (lv_at hl 0 rfl) ?_
                refine ty_callv ((W.runV (As := [.int 0, .int 0]) (rest := []) ⟨hx, hb, hml, hown, hts⟩ (s_X8_enter l D t cI cL cC gC gE (G + 120) gW gA r_40 0 0 h_41) (cwV 2 hts gu_X9_warn_X8_enter_279 rfl rfl rfl (by decide +kernel) ⟨Nat.le_of_ble_eq_true rfl, Nat.le_of_ble_eq_true rfl⟩) (tP_V hG hE at_62 rfl) rfl rfl hl.1 rfl (lv_room (Nat.le_of_ble_eq_true rfl)) dX9_warn_106 ⟨Nat.le_of_ble_eq_true rfl, Nat.le_of_ble_eq_true rfl⟩)) hS (wrL_sub (by decide)) (fun H locs hp_74 hG hS o_75 => ?_)
                have at_44 := va_at.keptC at_44 o_75 k_a0 rfl
                have at_62 := va_at.keptC at_62 o_75 h_41 rfl
                refine lv_iload hx hb dX9_warn_109 (lv_at hl 1 rfl) ?_
                refine lv_if_eq (tgt := 118) hx hb dX9_warn_111 (by decide) (fun _ => ?_) (fun q => absurd (by decide) q)
                refine lv_iconst (v := 0) hx hb dX9_warn_118 (by decide) ?_
                refine lv_pc (pc2 := 119) rfl ?_
                exact ty_iret hx hb hr hlk hG hS True.intro dX9_warn_119
              · skip
                have c_72 : a3.toInt < z_69.toInt := q_cmp_nle c_72
                refine lv_iconst (v := 1) hx hb dX9_warn_91 (by decide) ?_
                refine lv_goto (tgt := 96) hx hb dX9_warn_92 (by decide) ?_
                refine lv_istore (lv' := [(7, .int 1), (6, .int 0), (0, .ref a0), (1, .int a1), (2, .int a2), (3, .long a3), (5, .int a4)]) hx hb dX9_warn_96 hl (by decide) rfl (fun ls hl => ?_)
                refine lv_aload_n hx hb dX9_warn_98 rfl (lv_at hl 2 rfl) ?_
                refine va_get (D := D) (ci := 8) (v := .ref r_40) (C := RX9) (T := TX9) (N := 18) hx hb hts in9 hown hK (va_one at_44) 0 rfl rfl 16 (by decide) (hts (.fieldLink RX9 88 "RiverModel" "worlds" "LRiverModel$Worlds;") (List.mem_of_getElem? (i := 15) rfl)) (fun _ h9 => h9) rfl dX9_warn_99 ?_
                refine lv_iload hx hb dX9_warn_102 (lv_at hl 1 rfl) ?_
                refine lv_iload hx hb dX9_warn_104 (lv_at hl 0 rfl) ?_
                refine lv_pc (pc2 := 106) rfl ?_
                refine ty_callv ((W.runV (As := [.int 0, .int 1]) (rest := []) ⟨hx, hb, hml, hown, hts⟩ (s_X8_enter l D t cI cL cC gC gE (G + 120) gW gA r_40 0 1 h_41) (cwV 2 hts gu_X9_warn_X8_enter_279 rfl rfl rfl (by decide +kernel) ⟨Nat.le_of_ble_eq_true rfl, Nat.le_of_ble_eq_true rfl⟩) (tP_V hG hE at_62 rfl) rfl rfl hl.1 rfl (lv_room (Nat.le_of_ble_eq_true rfl)) dX9_warn_106 ⟨Nat.le_of_ble_eq_true rfl, Nat.le_of_ble_eq_true rfl⟩)) hS (wrL_sub (by decide)) (fun H locs hp_77 hG hS o_78 => ?_)
                have at_44 := va_at.keptC at_44 o_78 k_a0 rfl
                have at_62 := va_at.keptC at_62 o_78 h_41 rfl
                refine lv_iload hx hb dX9_warn_109 (lv_at hl 1 rfl) ?_
                refine lv_if_eq (tgt := 118) hx hb dX9_warn_111 (by decide) (fun _ => ?_) (fun q => absurd (by decide) q)
                refine lv_iconst (v := 0) hx hb dX9_warn_118 (by decide) ?_
                exact ty_iret hx hb hr hlk hG hS True.intro dX9_warn_119
            · skip
              have c_68 : x_66.toInt ≤ x_54.toInt := q_nlt c_68
              refine lv_iconst (v := 1) hx hb dX9_warn_72 (by decide) ?_
              refine lv_goto (tgt := 77) hx hb dX9_warn_73 (by decide) ?_
              refine lv_istore (lv' := [(6, .int 1), (0, .ref a0), (1, .int a1), (2, .int a2), (3, .long a3), (5, .int a4)]) hx hb dX9_warn_77 hl (by decide) rfl (fun ls hl => ?_)
              refine lv_pc (pc2 := 79) rfl ?_
              refine lv_aload_n hx hb dX9_warn_79 rfl (lv_at hl 1 rfl) ?_
              refine lv_iload_n hx hb dX9_warn_80 rfl (lv_at hl 2 rfl) ?_
              refine lv_iload_n hx hb dX9_warn_81 rfl (lv_at hl 3 rfl) ?_
              refine lv_iconst (v := (-1)) hx hb dX9_warn_82 (by decide) ?_
              refine ty_calll ((W.runV (As := [.int a1, .int a2, .int (-1)]) (rest := []) ⟨hx, hb, hml, hown, hts⟩ (s_X9_peakAhead l D t cI cL cC gC gE (G + 96) gW gA a0 a1 a2 (-1) (by omega) (by omega) k_a0) (cwV 3 hts gu_X9_warn_X9_peakAhead_275 rfl rfl rfl (by decide +kernel) ⟨Nat.le_of_ble_eq_true rfl, Nat.le_of_ble_eq_true rfl⟩) (tP_V hG hE at_44 rfl) rfl rfl hl.1 rfl (lv_room (Nat.le_of_ble_eq_true rfl)) dX9_warn_83 ⟨Nat.le_of_ble_eq_true rfl, Nat.le_of_ble_eq_true rfl⟩)) hS (wrL_sub (by decide)) (fun z_79 H locs hp_80 hG hS o_81 => ?_)
              have at_44 := va_at.keptC at_44 o_81 k_a0 rfl
              have at_62 := va_at.keptC at_62 o_81 h_41 rfl
              refine lv_lload_n hx hb dX9_warn_86 rfl (lv_at hl 4 rfl) ?_
              refine W.lcmp hx hb dX9_warn_87 ?_
              refine lv_if_le (tgt := 95) hx hb dX9_warn_88 (by decide) (fun c_82 => ?_) (fun c_82 => ?_)
              · skip
                have c_82 : z_79.toInt ≤ a3.toInt := q_cmp_le c_82
                refine lv_pc (pc2 := 95) rfl ?_
                refine lv_iconst (v := 0) hx hb dX9_warn_95 (by decide) ?_
                refine lv_istore (lv' := [(7, .int 0), (6, .int 1), (0, .ref a0), (1, .int a1), (2, .int a2), (3, .long a3), (5, .int a4)]) hx hb dX9_warn_96 hl (by decide) rfl (fun ls hl => ?_)
                refine lv_aload_n hx hb dX9_warn_98 rfl (lv_at hl 2 rfl) ?_
                refine va_get (D := D) (ci := 8) (v := .ref r_40) (C := RX9) (T := TX9) (N := 18) hx hb hts in9 hown hK (va_one at_44) 0 rfl rfl 16 (by decide) (hts (.fieldLink RX9 88 "RiverModel" "worlds" "LRiverModel$Worlds;") (List.mem_of_getElem? (i := 15) rfl)) (fun _ h9 => h9) rfl dX9_warn_99 ?_
                refine lv_iload hx hb dX9_warn_102 (lv_at hl 1 rfl) ?_
                refine lv_iload hx hb dX9_warn_104 (lv_at hl 0 rfl) ?_
                refine ty_callv ((W.runV (As := [.int 1, .int 0]) (rest := []) ⟨hx, hb, hml, hown, hts⟩ (s_X8_enter l D t cI cL cC gC gE (G + 120) gW gA r_40 1 0 h_41) (cwV 2 hts gu_X9_warn_X8_enter_279 rfl rfl rfl (by decide +kernel) ⟨Nat.le_of_ble_eq_true rfl, Nat.le_of_ble_eq_true rfl⟩) (tP_V hG hE at_62 rfl) rfl rfl hl.1 rfl (lv_room (Nat.le_of_ble_eq_true rfl)) dX9_warn_106 ⟨Nat.le_of_ble_eq_true rfl, Nat.le_of_ble_eq_true rfl⟩)) hS (wrL_sub (by decide)) (fun H locs hp_84 hG hS o_85 => ?_)
                have at_44 := va_at.keptC at_44 o_85 k_a0 rfl
                have at_62 := va_at.keptC at_62 o_85 h_41 rfl
                refine lv_iload hx hb dX9_warn_109 (lv_at hl 1 rfl) ?_
                refine lv_pc (pc2 := 111) rfl ?_
                refine lv_if_eq (tgt := 118) hx hb dX9_warn_111 (by decide) (fun q => absurd q (by decide)) (fun _ => ?_)
                refine lv_iconst (v := 1) hx hb dX9_warn_114 (by decide) ?_
                refine lv_goto (tgt := 119) hx hb dX9_warn_115 (by decide) ?_
                exact ty_iret hx hb hr hlk hG hS True.intro dX9_warn_119
              · skip
                have c_82 : a3.toInt < z_79.toInt := q_cmp_nle c_82
                refine lv_iconst (v := 1) hx hb dX9_warn_91 (by decide) ?_
                refine lv_goto (tgt := 96) hx hb dX9_warn_92 (by decide) ?_
                refine lv_istore (lv' := [(7, .int 1), (6, .int 1), (0, .ref a0), (1, .int a1), (2, .int a2), (3, .long a3), (5, .int a4)]) hx hb dX9_warn_96 hl (by decide) rfl (fun ls hl => ?_)
                refine lv_aload_n hx hb dX9_warn_98 rfl (lv_at hl 2 rfl) ?_
                refine lv_pc (pc2 := 99) rfl ?_
                refine va_get (D := D) (ci := 8) (v := .ref r_40) (C := RX9) (T := TX9) (N := 18) hx hb hts in9 hown hK (va_one at_44) 0 rfl rfl 16 (by decide) (hts (.fieldLink RX9 88 "RiverModel" "worlds" "LRiverModel$Worlds;") (List.mem_of_getElem? (i := 15) rfl)) (fun _ h9 => h9) rfl dX9_warn_99 ?_
                refine lv_iload hx hb dX9_warn_102 (lv_at hl 1 rfl) ?_
                refine lv_iload hx hb dX9_warn_104 (lv_at hl 0 rfl) ?_
                refine ty_callv ((W.runV (As := [.int 1, .int 1]) (rest := []) ⟨hx, hb, hml, hown, hts⟩ (s_X8_enter l D t cI cL cC gC gE (G + 120) gW gA r_40 1 1 h_41) (cwV 2 hts gu_X9_warn_X8_enter_279 rfl rfl rfl (by decide +kernel) ⟨Nat.le_of_ble_eq_true rfl, Nat.le_of_ble_eq_true rfl⟩) (tP_V hG hE at_62 rfl) rfl rfl hl.1 rfl (lv_room (Nat.le_of_ble_eq_true rfl)) dX9_warn_106 ⟨Nat.le_of_ble_eq_true rfl, Nat.le_of_ble_eq_true rfl⟩)) hS (wrL_sub (by decide)) (fun H locs hp_87 hG hS o_88 => ?_)
                have at_44 := va_at.keptC at_44 o_88 k_a0 rfl
                have at_62 := va_at.keptC at_62 o_88 h_41 rfl
                refine lv_iload hx hb dX9_warn_109 (lv_at hl 1 rfl) ?_
                refine lv_if_eq (tgt := 118) hx hb dX9_warn_111 (by decide) (fun q => absurd q (by decide)) (fun _ => ?_)
                refine lv_iconst (v := 1) hx hb dX9_warn_114 (by decide) ?_
                refine lv_goto (tgt := 119) hx hb dX9_warn_115 (by decide) ?_
                refine lv_pc (pc2 := 119) rfl ?_
                exact ty_iret hx hb hr hlk hG hS True.intro dX9_warn_119
          · skip
            refine lv_if_eq (tgt := 49) hx hb dX9_warn_43 (by decide) (fun q => absurd q (by decide)) (fun _ => ?_)
            refine lv_bipush (v := (-2)) hx hb dX9_warn_46 (by decide) ?_
            exact ty_iret hx hb hr hlk (hG.weak (fun _ _ => gF_mono (by omega))) hS True.intro dX9_warn_48
        · skip
          refine lv_if_ne (tgt := 46) hx hb dX9_warn_35 (by decide) (fun _ => ?_) (fun q => absurd q (by decide))
          refine lv_bipush (v := (-2)) hx hb dX9_warn_46 (by decide) ?_
          exact ty_iret hx hb hr hlk (hG.weak (fun _ _ => gF_mono (by omega))) hS True.intro dX9_warn_48

def uX9_booked : List Cond := .code yX9_booked cX9_booked 2 (some .int) :: ([.methodLink RX9 99 yX9_isOutside, .static yX9_isOutside, .initialized RX9, .fieldLink RX9 88 "RiverModel" "worlds" "LRiverModel$Worlds;", .fieldLink RX9 283 "RiverModel$Worlds" "warnings" "[I", .code yX9_isOutside cX9_isOutside 3 (some .boolean)] ++ wsX90 ++ wsX80)
set_option maxRecDepth 20000 in
theorem gu_X9_booked_X9_isOutside_99 : GoodIn uX9_booked (va_wsS RX9 99 yX9_isOutside uX9_isOutside) := goodIn_r _ [1, 2, 3, 6] rfl (by decide +kernel)
set_option maxHeartbeats 4000000 in
set_option maxRecDepth 100000 in
theorem s_X9_booked (l : Launch) (D : va_G) (t : Nat → Nat) (cI cL cC : ClassId) (gC : Int32) (gE : Int32) (G : Nat) (gW : Nat → Int32) (gA : Nat → Int32) (a0 : Nat) (a1 : Int32) (k_a0 : t a0 = 1) : tM l yX9_booked uX9_booked 1 22 D (gF cI cL cC gC gE G gW gA) (gF cI cL cC gC gE G gW gA) t cI cL cC [.ref a0, .int a1] wr0 (pI (fun r => True)) := by
  refine tM.ofW (cc := cX9_booked) (maxL := 2) (ret := (some .int)) (by decide) rfl (Nat.le_of_ble_eq_true rfl) ?_
  intro p e s m below meth c hx hb hr hml hown hts hlk H locs hG hK hE hS ls hl
  have hl : lv_has ls 2 [(0, .ref a0), (1, .int a1)] := hl
  have in9 : ∀ w ∈ wsX90, w ∈ uX9_booked := fun w h => List.mem_cons_of_mem _ (List.mem_append_left _ (List.mem_append_right _ h))
  have in8 : ∀ w ∈ wsX80, w ∈ uX9_booked := fun w h => List.mem_cons_of_mem _ (List.mem_append_right _ h)
  refine lv_iload_n hx hb dX9_booked_0 rfl (lv_at hl 1 rfl) ?_
  refine lv_iconst (v := 0) hx hb dX9_booked_1 (by decide) ?_
  refine lv_iconst (v := 3) hx hb dX9_booked_2 (by decide) ?_
  refine ty_calli ((W.runS (As := [.int a1, .int 0, .int 3]) (rest := []) ⟨hx, hb, hml, hown, hts⟩ (s_X9_isOutside l D t cI cL cC gC gE G gW gA a1 0 3 0 3 (by decide) (by decide) ) (va_cwS 3 hts gu_X9_booked_X9_isOutside_99 rfl rfl rfl (by decide +kernel) ⟨Nat.le_of_ble_eq_true rfl, Nat.le_of_ble_eq_true rfl⟩) (tP_S hG hE) rfl rfl hl.1 rfl (lv_room (Nat.le_of_ble_eq_true rfl)) dX9_booked_3 ⟨Nat.le_of_ble_eq_true rfl, Nat.le_of_ble_eq_true rfl⟩)) hS (fun _ h => h) (fun r_1 H locs hp_2 hG hS o_3 => ?_)
  rcases hp_2 with ⟨rfl, hc_214⟩ | ⟨rfl, hc_215, hc_216⟩
  · skip
    refine lv_if_eq (tgt := 13) hx hb dX9_booked_6 (by decide) (fun q => absurd q (by decide)) (fun _ => ?_)
    refine lv_iconst (v := (-1)) hx hb dX9_booked_9 (by decide) ?_
    refine lv_goto (tgt := 22) hx hb dX9_booked_10 (by decide) ?_
    refine lv_pc (pc2 := 22) rfl ?_
    exact ty_iret hx hb hr hlk hG hS True.intro dX9_booked_22
  · skip
    refine lv_if_eq (tgt := 13) hx hb dX9_booked_6 (by decide) (fun _ => ?_) (fun q => absurd (by decide) q)
    refine lv_aload_n hx hb dX9_booked_13 rfl (lv_at hl 0 rfl) ?_
    obtain ⟨r_4, r_6, r_8, r_10, v_12, v_13, r_14, r_16, r_18, r_20, r_22, r_24, r_26, v_28, r_30, r_32, r_34, r_36, at_38, h_5, h_7, h_9, h_11, h_15, h_17, h_19, h_21, h_23, h_25, h_27, h_29, h_31, h_33, h_35, h_37⟩ := gF_o1 hG k_a0
    refine va_get (D := D) (ci := 8) (v := .ref r_34) (C := RX9) (T := TX9) (N := 18) hx hb hts in9 hown hK (va_one at_38) 0 rfl rfl 16 (by decide) (hts (.fieldLink RX9 88 "RiverModel" "worlds" "LRiverModel$Worlds;") (List.mem_of_getElem? (i := 4) rfl)) (fun _ h9 => h9) rfl dX9_booked_14 ?_
    obtain ⟨r_39, r_41, r_43, at_45, h_40, h_42, h_44⟩ := gF_o8 hG h_35
    refine va_get (D := D) (ci := 7) (v := .ref r_41) (C := RX8) (T := TX8) (N := 3) hx hb hts in8 hown hK (va_one at_45) 0 rfl rfl 1 (by decide) (hts (.fieldLink RX9 283 "RiverModel$Worlds" "warnings" "[I") (List.mem_of_getElem? (i := 5) rfl)) (fun _ h9 => h9) rfl dX9_booked_17 ?_
    refine lv_iload_n hx hb dX9_booked_20 rfl (lv_at hl 1 rfl) ?_
    obtain ⟨f_46, at_47⟩ := gF_o30 hG h_42
    have b_48 : vp_in a1 4 := (q_in (by omega) (by omega))
    refine va_iald hx hb hK (va_one at_47) 0 0 rfl rfl b_48 dX9_booked_21 ?_
    refine lv_topi (fun x_49 e_50 => ?_)
    exact ty_iret hx hb hr hlk hG hS True.intro dX9_booked_22

def uX9_peak : List Cond := .code yX9_peak cX9_peak 4 (some .long) :: ([.methodLink RX9 205 yX9_isNoGauge, .static yX9_isNoGauge, .initialized RX9, .constantLong RX9 158 (-1), .methodLink RX9 99 yX9_isOutside, .static yX9_isOutside, .methodLink RX9 212 yX9_lacksGauge, .instanceMethod yX9_lacksGauge, .selects RX9 yX9_lacksGauge yX9_lacksGauge, .methodLink RX9 265 yX9_isBeyond, .instanceMethod yX9_isBeyond, .selects RX9 yX9_isBeyond yX9_isBeyond, .methodLink RX9 275 yX9_peakAhead, .instanceMethod yX9_peakAhead, .selects RX9 yX9_peakAhead yX9_peakAhead, .constantLong RX9 163 (-2), .code yX9_isNoGauge cX9_isNoGauge 1 (some .boolean), .code yX9_isOutside cX9_isOutside 3 (some .boolean), .code yX9_lacksGauge cX9_lacksGauge 2 (some .boolean), .fieldLink RX9 29 "RiverModel" "isBuilt" "Z", .fieldLink RX9 74 "RiverModel" "gauges" "LRiverModel$Gauges;", .methodLink RX9 346 yX1_isSet, .instanceMethod yX1_isSet, .selects RX1 yX1_isSet yX1_isSet, .initialized RX1, .code yX1_isSet cX1_isSet 2 (some .boolean), .fieldLink RX1 9 "RiverModel$Gauges" "whats" "[I", .code yX9_isBeyond cX9_isBeyond 2 (some .boolean), .fieldLink RX9 53 "RiverModel" "now" "LRiverModel$Course;", .fieldLink RX9 144 "RiverModel$Course" "hours" "I", .code yX9_peakAhead cX9_peakAhead 9 (some .long), .fieldLink RX9 57 "RiverModel" "trial" "LRiverModel$Course;", .methodLink RX9 330 yX0_copyFrom, .instanceMethod yX0_copyFrom, .selects RX0 yX0_copyFrom yX0_copyFrom, .initialized RX0, .fieldLink RX9 88 "RiverModel" "worlds" "LRiverModel$Worlds;", .methodLink RX9 371 yX8_rainAhead, .instanceMethod yX8_rainAhead, .selects RX8 yX8_rainAhead yX8_rainAhead, .initialized RX8, .fieldLink RX9 19 "RiverModel" "model" "LRiverModel$Model;", .fieldLink RX9 39 "RiverModel" "skyA" "LRiverModel$Sky;", .methodLink RX9 360 yX6_tempIn, .instanceMethod yX6_tempIn, .selects RX6 yX6_tempIn yX6_tempIn, .initialized RX6, .methodLink RX9 363 yX0_goHour, .instanceMethod yX0_goHour, .selects RX0 yX0_goHour yX0_goHour, .methodLink RX9 215 yX1_reading, .instanceMethod yX1_reading, .selects RX1 yX1_reading yX1_reading, .methodLink RX9 374 Lib.MathLoose.max_long.x, .static Lib.MathLoose.max_long.x, .initialized "java/lang/Math", .code Lib.MathLoose.max_long.x Lib.MathLoose.max_long.code 4 (some .long), .methodLink RX9 357 yX6_rainIn, .instanceMethod yX6_rainIn, .selects RX6 yX6_rainIn yX6_rainIn, .code yX0_copyFrom cX0_copyFrom 2 none, .fieldLink RX0 9 "RiverModel$Course" "held" "[J", .methodLink RX0 54 arraycopyName, .native arraycopyName, .static arraycopyName, .initialized "java/lang/System", .fieldLink RX0 15 "RiverModel$Course" "moved" "[J", .fieldLink RX0 18 "RiverModel$Course" "openings" "[I", .fieldLink RX0 22 "RiverModel$Course" "due" "[J", .fieldLink RX0 25 "RiverModel$Course" "rained" "J", .fieldLink RX0 29 "RiverModel$Course" "air" "J", .fieldLink RX0 32 "RiverModel$Course" "sea" "J", .fieldLink RX0 35 "RiverModel$Course" "hours" "I", .code yX8_rainAhead cX8_rainAhead 3 (some .int), .static yX9_isNoWorld, .fieldLink RX8 18 "RiverModel$Worlds" "rains" "[I", .code yX9_isNoWorld cX9_isNoWorld 1 (some .boolean), .code yX6_tempIn cX6_tempIn 2 (some .int), .fieldLink RX6 15 "RiverModel$Sky" "temps" "[I", .code yX0_goHour cX0_goHour 7 none, .methodLink RX0 72 yX0_bringDue, .instanceMethod yX0_bringDue, .selects RX0 yX0_bringDue yX0_bringDue, .fieldLink RX0 75 "RiverModel$Model" "many" "I", .methodLink RX0 78 yX0_amountOf, .instanceMethod yX0_amountOf, .selects RX0 yX0_amountOf yX0_amountOf, .methodLink RX0 82 yX0_move, .instanceMethod yX0_move, .selects RX0 yX0_move yX0_move, .code yX0_bringDue cX0_bringDue 3 none, .code yX0_amountOf cX0_amountOf 11 (some .long), .methodLink RX0 86 yX4_cell, .instanceMethod yX4_cell, .selects RX4 yX4_cell yX4_cell, .initialized RX4, .static yX9_isNoStore, .methodLink RX0 110 yX4_gateOf, .instanceMethod yX4_gateOf, .selects RX4 yX4_gateOf yX4_gateOf, .methodLink RX0 113 yX0_openingOf, .instanceMethod yX0_openingOf, .selects RX0 yX0_openingOf yX0_openingOf, .methodLink RX0 107 Lib.MathLoose.min_long.x, .static Lib.MathLoose.min_long.x, .code Lib.MathLoose.min_long.x Lib.MathLoose.min_long.code 4 (some .long), .methodLink RX0 94 yX0_leakOf, .static yX0_leakOf, .constantLong RX0 117 (100), .methodLink RX0 98 yX4_capacityOf, .instanceMethod yX4_capacityOf, .selects RX4 yX4_capacityOf yX4_capacityOf, .methodLink RX0 101 Lib.MathLoose.max_long.x, .constantLong RX0 119 (10), .code yX4_cell cX4_cell 3 (some .int), .fieldLink RX4 9 "RiverModel$Model" "cells" "[I", .code yX9_isNoStore cX9_isNoStore 1 (some .boolean), .code yX4_gateOf cX4_gateOf 3 (some .int), .fieldLink RX4 28 "RiverModel$Model" "gates" "I", .fieldLink RX4 18 "RiverModel$Model" "gateItems" "[I", .code yX0_openingOf cX0_openingOf 2 (some .long), .static yX9_isNoGate, .code yX9_isNoGate cX9_isNoGate 1 (some .boolean), .code yX0_leakOf cX0_leakOf 8 (some .long), .code yX4_capacityOf cX4_capacityOf 2 (some .int), .methodLink RX4 66 yX4_hasStore, .instanceMethod yX4_hasStore, .selects RX4 yX4_hasStore yX4_hasStore, .fieldLink RX4 15 "RiverModel$Model" "storeItems" "[I", .methodLink RX4 73 yX4_cell, .code yX4_hasStore cX4_hasStore 2 (some .boolean), .code yX0_move cX0_move 8 none, .methodLink RX0 124 yX0_send, .instanceMethod yX0_send, .selects RX0 yX0_send yX0_send, .code yX0_send cX0_send 5 none, .code yX1_reading cX1_reading 4 (some .long), .methodLink RX1 35 yX1_isSet, .fieldLink RX1 15 "RiverModel$Gauges" "places" "[I", .fieldLink RX1 50 "RiverModel$Course" "held" "[J", .static yX9_isNoItem, .fieldLink RX1 41 "RiverModel$Course" "moved" "[J", .code yX9_isNoItem cX9_isNoItem 1 (some .boolean), .code yX6_rainIn cX6_rainIn 2 (some .int), .fieldLink RX6 9 "RiverModel$Sky" "rains" "[I"] ++ wsX90 ++ wsX10 ++ wsX00 ++ wsX80 ++ wsX60 ++ wsX40)
set_option maxRecDepth 20000 in
theorem gu_X9_peak_X9_isNoGauge_205 : GoodIn uX9_peak (va_wsS RX9 205 yX9_isNoGauge uX9_isNoGauge) := goodIn_r _ [1, 2, 3, 17] rfl (by decide +kernel)
set_option maxRecDepth 20000 in
theorem gu_X9_peak_X9_isOutside_99 : GoodIn uX9_peak (va_wsS RX9 99 yX9_isOutside uX9_isOutside) := goodIn_r _ [5, 6, 3, 18] rfl (by decide +kernel)
set_option maxRecDepth 20000 in
theorem gu_X9_peak_X9_lacksGauge_212 : GoodIn uX9_peak (wsV RX9 212 RX9 yX9_lacksGauge uX9_lacksGauge) := goodIn_r _ [7, 8, 9, 3, 19, 20, 21, 22, 23, 24, 25, 26, 27, 146, 147, 148, 149, 150, 151, 152, 153, 154, 155, 156, 157, 158, 159, 160, 161, 162, 163, 164, 165, 166, 167] rfl (by decide +kernel)
set_option maxRecDepth 20000 in
theorem gu_X9_peak_X9_isBeyond_265 : GoodIn uX9_peak (wsV RX9 265 RX9 yX9_isBeyond uX9_isBeyond) := goodIn_r _ [10, 11, 12, 3, 28, 29, 30, 146, 147, 148, 149, 150, 151, 152, 153, 154, 155, 156, 157, 158, 159, 160, 161, 162, 163, 168, 169, 170, 171, 172, 173, 174, 175] rfl (by decide +kernel)
set_option maxRecDepth 20000 in
theorem gu_X9_peak_X9_peakAhead_275 : GoodIn uX9_peak (wsV RX9 275 RX9 yX9_peakAhead uX9_peakAhead) := goodIn_r _ [13, 14, 15, 3, 31, 32, 29, 33, 34, 35, 36, 30, 37, 38, 39, 40, 41, 42, 43, 44, 45, 46, 47, 48, 49, 50, 21, 51, 52, 53, 25, 54, 55, 56, 57, 58, 59, 60, 61, 62, 63, 64, 65, 66, 67, 68, 69, 70, 71, 72, 73, 74, 3, 75, 6, 76, 77, 18, 78, 79, 80, 81, 82, 83, 84, 85, 86, 87, 88, 89, 90, 91, 92, 93, 94, 95, 96, 97, 98, 99, 100, 101, 102, 103, 104, 105, 106, 107, 108, 109, 110, 111, 112, 113, 114, 115, 116, 117, 118, 119, 120, 121, 122, 123, 124, 125, 126, 127, 128, 129, 130, 131, 132, 133, 134, 135, 136, 137, 138, 23, 24, 139, 27, 140, 141, 142, 26, 143, 144, 145, 146, 147, 148, 149, 150, 151, 152, 153, 154, 155, 156, 157, 158, 159, 160, 161, 162, 163, 168, 169, 170, 171, 172, 173, 174, 175, 176, 177, 178, 179, 180, 181, 182, 183, 184, 185, 186, 164, 165, 166, 167] rfl (by decide +kernel)
set_option maxHeartbeats 4000000 in
set_option maxRecDepth 100000 in
theorem s_X9_peak (l : Launch) (D : va_G) (t : Nat → Nat) (cI cL cC : ClassId) (gC : Int32) (gE : Int32) (G : Nat) (gW : Nat → Int32) (gA : Nat → Int32) (a0 : Nat) (a1 : Int32) (a2 : Int32) (a3 : Int32) (hGb : G ≤ 100000000) (k_a0 : t a0 = 1) : tM l yX9_peak uX9_peak 5 127 D (gF cI cL cC gC gE G gW gA) (gF cI cL cC gC gE (G + 24) gW gA) t cI cL cC [.ref a0, .int a1, .int a2, .int a3] wrC (pL (fun r => True)) := by
  refine tM.ofW (cc := cX9_peak) (maxL := 4) (ret := (some .long)) (by decide) rfl (Nat.le_of_ble_eq_true rfl) ?_
  intro p e s m below meth c hx hb hr hml hown hts hlk H locs hG hK hE hS ls hl
  have hl : lv_has ls 4 [(0, .ref a0), (1, .int a1), (2, .int a2), (3, .int a3)] := hl
  skip
  refine lv_iload_n hx hb dX9_peak_0 rfl (lv_at hl 1 rfl) ?_
  refine ty_calli ((W.runS (As := [.int a1]) (rest := []) ⟨hx, hb, hml, hown, hts⟩ (s_X9_isNoGauge l D t cI cL cC gC gE G gW gA a1 ) (va_cwS 1 hts gu_X9_peak_X9_isNoGauge_205 rfl rfl rfl (by decide +kernel) ⟨Nat.le_of_ble_eq_true rfl, Nat.le_of_ble_eq_true rfl⟩) (tP_S hG hE) rfl rfl hl.1 rfl (lv_room (Nat.le_of_ble_eq_true rfl)) dX9_peak_1 ⟨Nat.le_of_ble_eq_true rfl, Nat.le_of_ble_eq_true rfl⟩)) hS (fun k h => by simp [wr0] at h) (fun r_1 H locs hp_2 hG hS o_3 => ?_)
  rcases hp_2 with ⟨rfl, hc_217⟩ | ⟨rfl, hc_218, hc_219⟩
  · skip
    refine lv_if_ne (tgt := 26) hx hb dX9_peak_4 (by decide) (fun _ => ?_) (fun q => absurd q (by decide))
    refine lv_ldc2 hx hb hown (hts (.constantLong RX9 158 (-1)) (List.mem_of_getElem? (i := 4) rfl)) dX9_peak_26 ?_
    exact ty_lret hx hb hr hlk (hG.weak (fun _ _ => gF_mono (by omega))) hS True.intro dX9_peak_29
  · skip
    refine lv_if_ne (tgt := 26) hx hb dX9_peak_4 (by decide) (fun q => absurd rfl q) (fun _ => ?_)
    refine lv_iload_n hx hb dX9_peak_7 rfl (lv_at hl 2 rfl) ?_
    refine lv_pc (pc2 := 8) rfl ?_
    refine lv_iconst (v := 1) hx hb dX9_peak_8 (by decide) ?_
    refine lv_bipush (v := 24) hx hb dX9_peak_9 (by decide) ?_
    refine ty_calli ((W.runS (As := [.int a2, .int 1, .int 24]) (rest := []) ⟨hx, hb, hml, hown, hts⟩ (s_X9_isOutside l D t cI cL cC gC gE G gW gA a2 1 24 1 24 (by decide) (by decide) ) (va_cwS 3 hts gu_X9_peak_X9_isOutside_99 rfl rfl rfl (by decide +kernel) ⟨Nat.le_of_ble_eq_true rfl, Nat.le_of_ble_eq_true rfl⟩) (tP_S hG hE) rfl rfl hl.1 rfl (lv_room (Nat.le_of_ble_eq_true rfl)) dX9_peak_11 ⟨Nat.le_of_ble_eq_true rfl, Nat.le_of_ble_eq_true rfl⟩)) hS (fun k h => by simp [wr0] at h) (fun r_4 H locs hp_5 hG hS o_6 => ?_)
    rcases hp_5 with ⟨rfl, hc_220⟩ | ⟨rfl, hc_221, hc_222⟩
    · skip
      refine lv_if_ne (tgt := 26) hx hb dX9_peak_14 (by decide) (fun _ => ?_) (fun q => absurd q (by decide))
      refine lv_ldc2 hx hb hown (hts (.constantLong RX9 158 (-1)) (List.mem_of_getElem? (i := 4) rfl)) dX9_peak_26 ?_
      exact ty_lret hx hb hr hlk (hG.weak (fun _ _ => gF_mono (by omega))) hS True.intro dX9_peak_29
    · skip
      refine lv_if_ne (tgt := 26) hx hb dX9_peak_14 (by decide) (fun q => absurd rfl q) (fun _ => ?_)
      refine lv_iload_n hx hb dX9_peak_17 rfl (lv_at hl 3 rfl) ?_
      refine lv_pc (pc2 := 18) rfl ?_
      refine lv_iconst (v := (-1)) hx hb dX9_peak_18 (by decide) ?_
      refine lv_iconst (v := 3) hx hb dX9_peak_19 (by decide) ?_
      refine ty_calli ((W.runS (As := [.int a3, .int (-1), .int 3]) (rest := []) ⟨hx, hb, hml, hown, hts⟩ (s_X9_isOutside l D t cI cL cC gC gE G gW gA a3 (-1) 3 (-1) 3 (by decide) (by decide) ) (va_cwS 3 hts gu_X9_peak_X9_isOutside_99 rfl rfl rfl (by decide +kernel) ⟨Nat.le_of_ble_eq_true rfl, Nat.le_of_ble_eq_true rfl⟩) (tP_S hG hE) rfl rfl hl.1 rfl (lv_room (Nat.le_of_ble_eq_true rfl)) dX9_peak_20 ⟨Nat.le_of_ble_eq_true rfl, Nat.le_of_ble_eq_true rfl⟩)) hS (fun k h => by simp [wr0] at h) (fun r_7 H locs hp_8 hG hS o_9 => ?_)
      rcases hp_8 with ⟨rfl, hc_223⟩ | ⟨rfl, hc_224, hc_225⟩
      · skip
        refine lv_if_eq (tgt := 30) hx hb dX9_peak_23 (by decide) (fun q => absurd q (by decide)) (fun _ => ?_)
        refine lv_ldc2 hx hb hown (hts (.constantLong RX9 158 (-1)) (List.mem_of_getElem? (i := 4) rfl)) dX9_peak_26 ?_
        exact ty_lret hx hb hr hlk (hG.weak (fun _ _ => gF_mono (by omega))) hS True.intro dX9_peak_29
      · skip
        refine lv_if_eq (tgt := 30) hx hb dX9_peak_23 (by decide) (fun _ => ?_) (fun q => absurd (by decide) q)
        refine lv_aload_n hx hb dX9_peak_30 rfl (lv_at hl 0 rfl) ?_
        refine lv_pc (pc2 := 31) rfl ?_
        refine lv_iload_n hx hb dX9_peak_31 rfl (lv_at hl 1 rfl) ?_
        obtain ⟨r_10, r_12, r_14, r_16, v_18, v_19, r_20, r_22, r_24, r_26, r_28, r_30, r_32, v_34, r_36, r_38, r_40, r_42, at_44, h_11, h_13, h_15, h_17, h_21, h_23, h_25, h_27, h_29, h_31, h_33, h_35, h_37, h_39, h_41, h_43⟩ := gF_o1 hG k_a0
        refine ty_calli ((W.runV (As := [.int a1]) (rest := []) ⟨hx, hb, hml, hown, hts⟩ (s_X9_lacksGauge l D t cI cL cC gC gE G gW gA a0 a1 k_a0) (cwV 1 hts gu_X9_peak_X9_lacksGauge_212 rfl rfl rfl (by decide +kernel) ⟨Nat.le_of_ble_eq_true rfl, Nat.le_of_ble_eq_true rfl⟩) (tP_V hG hE at_44 rfl) rfl rfl hl.1 rfl (lv_room (Nat.le_of_ble_eq_true rfl)) dX9_peak_32 ⟨Nat.le_of_ble_eq_true rfl, Nat.le_of_ble_eq_true rfl⟩)) hS (fun k h => by simp [wr0] at h) (fun r_45 H locs hp_46 hG hS o_47 => ?_)
        have at_44 := va_at.keptC at_44 o_47 k_a0 rfl
        rcases hp_46 with rfl | rfl
        · skip
          refine lv_if_ne (tgt := 46) hx hb dX9_peak_35 (by decide) (fun q => absurd rfl q) (fun _ => ?_)
          refine lv_aload_n hx hb dX9_peak_38 rfl (lv_at hl 0 rfl) ?_
          refine lv_iload_n hx hb dX9_peak_39 rfl (lv_at hl 2 rfl) ?_
          refine ty_calli ((W.runV (As := [.int a2]) (rest := []) ⟨hx, hb, hml, hown, hts⟩ (s_X9_isBeyond l D t cI cL cC gC gE G gW gA a0 a2 k_a0) (cwV 1 hts gu_X9_peak_X9_isBeyond_265 rfl rfl rfl (by decide +kernel) ⟨Nat.le_of_ble_eq_true rfl, Nat.le_of_ble_eq_true rfl⟩) (tP_V hG hE at_44 rfl) rfl rfl hl.1 rfl (lv_room (Nat.le_of_ble_eq_true rfl)) dX9_peak_40 ⟨Nat.le_of_ble_eq_true rfl, Nat.le_of_ble_eq_true rfl⟩)) hS (fun k h => by simp [wr0] at h) (fun r_48 H locs hp_49 hG hS o_50 => ?_)
          have at_44 := va_at.keptC at_44 o_50 k_a0 rfl
          rcases hp_49 with rfl | rfl
          · skip
            refine lv_if_eq (tgt := 52) hx hb dX9_peak_43 (by decide) (fun _ => ?_) (fun q => absurd (by decide) q)
            refine lv_aload_n hx hb dX9_peak_52 rfl (lv_at hl 0 rfl) ?_
            refine lv_pc (pc2 := 53) rfl ?_
            refine lv_iload_n hx hb dX9_peak_53 rfl (lv_at hl 1 rfl) ?_
            refine lv_iload_n hx hb dX9_peak_54 rfl (lv_at hl 2 rfl) ?_
            refine lv_iload_n hx hb dX9_peak_55 rfl (lv_at hl 3 rfl) ?_
            refine ty_calll ((W.runV (As := [.int a1, .int a2, .int a3]) (rest := []) ⟨hx, hb, hml, hown, hts⟩ (s_X9_peakAhead l D t cI cL cC gC gE G gW gA a0 a1 a2 a3 (by omega) (by omega) k_a0) (cwV 3 hts gu_X9_peak_X9_peakAhead_275 rfl rfl rfl (by decide +kernel) ⟨Nat.le_of_ble_eq_true rfl, Nat.le_of_ble_eq_true rfl⟩) (tP_V hG hE at_44 rfl) rfl rfl hl.1 rfl (lv_room (Nat.le_of_ble_eq_true rfl)) dX9_peak_56 ⟨Nat.le_of_ble_eq_true rfl, Nat.le_of_ble_eq_true rfl⟩)) hS (fun _ h => h) (fun z_51 H locs hp_52 hG hS o_53 => ?_)
            have at_44 := va_at.keptC at_44 o_53 k_a0 rfl
            exact ty_lret hx hb hr hlk hG hS True.intro dX9_peak_59
          · skip
            refine lv_if_eq (tgt := 52) hx hb dX9_peak_43 (by decide) (fun q => absurd q (by decide)) (fun _ => ?_)
            refine lv_ldc2 hx hb hown (hts (.constantLong RX9 163 (-2)) (List.mem_of_getElem? (i := 16) rfl)) dX9_peak_46 ?_
            refine lv_goto (tgt := 59) hx hb dX9_peak_49 (by decide) ?_
            refine lv_pc (pc2 := 59) rfl ?_
            exact ty_lret hx hb hr hlk (hG.weak (fun _ _ => gF_mono (by omega))) hS True.intro dX9_peak_59
        · skip
          refine lv_if_ne (tgt := 46) hx hb dX9_peak_35 (by decide) (fun _ => ?_) (fun q => absurd q (by decide))
          refine lv_ldc2 hx hb hown (hts (.constantLong RX9 163 (-2)) (List.mem_of_getElem? (i := 16) rfl)) dX9_peak_46 ?_
          refine lv_goto (tgt := 59) hx hb dX9_peak_49 (by decide) ?_
          exact ty_lret hx hb hr hlk (hG.weak (fun _ _ => gF_mono (by omega))) hS True.intro dX9_peak_59

def uX9_best : List Cond := .code yX9_best cX9_best 8 (some .long) :: ([.methodLink RX9 176 yX9_isNoGate, .static yX9_isNoGate, .initialized RX9, .constantLong RX9 158 (-1), .methodLink RX9 99 yX9_isOutside, .static yX9_isOutside, .methodLink RX9 205 yX9_isNoGauge, .static yX9_isNoGauge, .methodLink RX9 155 yX9_isNoStore, .static yX9_isNoStore, .methodLink RX9 179 yX9_lacksGate, .instanceMethod yX9_lacksGate, .selects RX9 yX9_lacksGate yX9_lacksGate, .methodLink RX9 212 yX9_lacksGauge, .instanceMethod yX9_lacksGauge, .selects RX9 yX9_lacksGauge yX9_lacksGauge, .methodLink RX9 160 yX9_lacksStore, .instanceMethod yX9_lacksStore, .selects RX9 yX9_lacksStore yX9_lacksStore, .methodLink RX9 265 yX9_isBeyond, .instanceMethod yX9_isBeyond, .selects RX9 yX9_isBeyond yX9_isBeyond, .fieldLink RX9 95 "RiverModel" "search" "LRiverModel$Search;", .methodLink RX9 286 yX5_prepare, .instanceMethod yX5_prepare, .selects RX5 yX5_prepare yX5_prepare, .initialized RX5, .fieldLink RX9 19 "RiverModel" "model" "LRiverModel$Model;", .fieldLink RX9 39 "RiverModel" "skyA" "LRiverModel$Sky;", .fieldLink RX9 74 "RiverModel" "gauges" "LRiverModel$Gauges;", .fieldLink RX9 53 "RiverModel" "now" "LRiverModel$Course;", .instanceMethod yX5_tryBlock, .selects RX5 yX5_tryBlock yX5_tryBlock, .fieldLink RX9 294 "RiverModel$Search" "isFound" "Z", .fieldLink RX9 302 "RiverModel$Search" "found" "[I", .fieldLink RX9 299 "RiverModel$Search" "leastPeak" "J", .constantLong RX9 297 (-4), .constantLong RX9 163 (-2), .code yX9_isNoGate cX9_isNoGate 1 (some .boolean), .code yX9_isOutside cX9_isOutside 3 (some .boolean), .code yX9_isNoGauge cX9_isNoGauge 1 (some .boolean), .code yX9_isNoStore cX9_isNoStore 1 (some .boolean), .code yX9_lacksGate cX9_lacksGate 2 (some .boolean), .fieldLink RX9 29 "RiverModel" "isBuilt" "Z", .fieldLink RX9 333 "RiverModel$Model" "gates" "I", .code yX9_lacksGauge cX9_lacksGauge 2 (some .boolean), .methodLink RX9 346 yX1_isSet, .instanceMethod yX1_isSet, .selects RX1 yX1_isSet yX1_isSet, .initialized RX1, .code yX1_isSet cX1_isSet 2 (some .boolean), .fieldLink RX1 9 "RiverModel$Gauges" "whats" "[I", .code yX9_lacksStore cX9_lacksStore 2 (some .boolean), .methodLink RX9 343 yX4_hasStore, .instanceMethod yX4_hasStore, .selects RX4 yX4_hasStore yX4_hasStore, .initialized RX4, .code yX4_hasStore cX4_hasStore 2 (some .boolean), .fieldLink RX4 15 "RiverModel$Model" "storeItems" "[I", .code yX9_isBeyond cX9_isBeyond 2 (some .boolean), .fieldLink RX9 144 "RiverModel$Course" "hours" "I", .code yX5_prepare cX5_prepare 7 none, .fieldLink RX5 32 "RiverModel$Search" "gate" "I", .fieldLink RX5 36 "RiverModel$Search" "blockHours" "I", .fieldLink RX5 39 "RiverModel$Search" "gauge" "I", .fieldLink RX5 42 "RiverModel$Search" "store" "I", .fieldLink RX5 45 "RiverModel$Search" "limit" "J", .fieldLink RX5 24 "RiverModel$Search" "isFound" "Z", .code yX5_tryBlock cX5_tryBlock 12 none, .fieldLink RX5 11 "RiverModel$Search" "blockEnds" "[LRiverModel$Course;", .fieldLink RX5 17 "RiverModel$Search" "tried" "[I", .methodLink RX5 53 yX0_copyFrom, .instanceMethod yX0_copyFrom, .selects RX0 yX0_copyFrom yX0_copyFrom, .initialized RX0, .methodLink RX5 57 yX5_peakOfBlock, .instanceMethod yX5_peakOfBlock, .selects RX5 yX5_peakOfBlock yX5_peakOfBlock, .constantLong RX5 61 (-1), .methodLink RX5 67 yX5_tryBlock, .fieldLink RX5 28 "RiverModel$Search" "leastPeak" "J", .code yX0_copyFrom cX0_copyFrom 2 none, .fieldLink RX0 9 "RiverModel$Course" "held" "[J", .methodLink RX0 54 arraycopyName, .native arraycopyName, .static arraycopyName, .initialized "java/lang/System", .fieldLink RX0 15 "RiverModel$Course" "moved" "[J", .fieldLink RX0 18 "RiverModel$Course" "openings" "[I", .fieldLink RX0 22 "RiverModel$Course" "due" "[J", .fieldLink RX0 25 "RiverModel$Course" "rained" "J", .fieldLink RX0 29 "RiverModel$Course" "air" "J", .fieldLink RX0 32 "RiverModel$Course" "sea" "J", .fieldLink RX0 35 "RiverModel$Course" "hours" "I", .code yX5_peakOfBlock cX5_peakOfBlock 11 (some .long), .fieldLink RX5 78 "RiverModel$Course" "openings" "[I", .fieldLink RX5 81 "RiverModel$Course" "hours" "I", .methodLink RX5 84 yX6_rainIn, .instanceMethod yX6_rainIn, .selects RX6 yX6_rainIn yX6_rainIn, .initialized RX6, .methodLink RX5 90 yX6_tempIn, .instanceMethod yX6_tempIn, .selects RX6 yX6_tempIn yX6_tempIn, .methodLink RX5 93 yX0_goHour, .instanceMethod yX0_goHour, .selects RX0 yX0_goHour yX0_goHour, .fieldLink RX5 97 "RiverModel$Course" "held" "[J", .methodLink RX5 101 yX1_reading, .instanceMethod yX1_reading, .selects RX1 yX1_reading yX1_reading, .methodLink RX5 107 Lib.MathLoose.max_long.x, .static Lib.MathLoose.max_long.x, .initialized "java/lang/Math", .code Lib.MathLoose.max_long.x Lib.MathLoose.max_long.code 4 (some .long), .code yX6_rainIn cX6_rainIn 2 (some .int), .fieldLink RX6 9 "RiverModel$Sky" "rains" "[I", .code yX6_tempIn cX6_tempIn 2 (some .int), .fieldLink RX6 15 "RiverModel$Sky" "temps" "[I", .code yX0_goHour cX0_goHour 7 none, .methodLink RX0 72 yX0_bringDue, .instanceMethod yX0_bringDue, .selects RX0 yX0_bringDue yX0_bringDue, .fieldLink RX0 75 "RiverModel$Model" "many" "I", .methodLink RX0 78 yX0_amountOf, .instanceMethod yX0_amountOf, .selects RX0 yX0_amountOf yX0_amountOf, .methodLink RX0 82 yX0_move, .instanceMethod yX0_move, .selects RX0 yX0_move yX0_move, .code yX0_bringDue cX0_bringDue 3 none, .code yX0_amountOf cX0_amountOf 11 (some .long), .methodLink RX0 86 yX4_cell, .instanceMethod yX4_cell, .selects RX4 yX4_cell yX4_cell, .methodLink RX0 110 yX4_gateOf, .instanceMethod yX4_gateOf, .selects RX4 yX4_gateOf yX4_gateOf, .methodLink RX0 113 yX0_openingOf, .instanceMethod yX0_openingOf, .selects RX0 yX0_openingOf yX0_openingOf, .methodLink RX0 107 Lib.MathLoose.min_long.x, .static Lib.MathLoose.min_long.x, .code Lib.MathLoose.min_long.x Lib.MathLoose.min_long.code 4 (some .long), .methodLink RX0 94 yX0_leakOf, .static yX0_leakOf, .constantLong RX0 117 (100), .methodLink RX0 98 yX4_capacityOf, .instanceMethod yX4_capacityOf, .selects RX4 yX4_capacityOf yX4_capacityOf, .methodLink RX0 101 Lib.MathLoose.max_long.x, .constantLong RX0 119 (10), .code yX4_cell cX4_cell 3 (some .int), .fieldLink RX4 9 "RiverModel$Model" "cells" "[I", .code yX4_gateOf cX4_gateOf 3 (some .int), .fieldLink RX4 28 "RiverModel$Model" "gates" "I", .fieldLink RX4 18 "RiverModel$Model" "gateItems" "[I", .code yX0_openingOf cX0_openingOf 2 (some .long), .code yX0_leakOf cX0_leakOf 8 (some .long), .code yX4_capacityOf cX4_capacityOf 2 (some .int), .methodLink RX4 66 yX4_hasStore, .methodLink RX4 73 yX4_cell, .code yX0_move cX0_move 8 none, .methodLink RX0 124 yX0_send, .instanceMethod yX0_send, .selects RX0 yX0_send yX0_send, .code yX0_send cX0_send 5 none, .code yX1_reading cX1_reading 4 (some .long), .methodLink RX1 35 yX1_isSet, .fieldLink RX1 15 "RiverModel$Gauges" "places" "[I", .fieldLink RX1 50 "RiverModel$Course" "held" "[J", .static yX9_isNoItem, .fieldLink RX1 41 "RiverModel$Course" "moved" "[J", .code yX9_isNoItem cX9_isNoItem 1 (some .boolean), .methodLink RX5 63 yX5_takeTried, .instanceMethod yX5_takeTried, .selects RX5 yX5_takeTried yX5_takeTried, .code yX5_takeTried cX5_takeTried 3 none, .fieldLink RX5 21 "RiverModel$Search" "found" "[I", .methodLink RX5 113 arraycopyName] ++ wsX90 ++ wsX50 ++ wsX40 ++ wsX10 ++ wsX00 ++ wsX60)
set_option maxRecDepth 20000 in
theorem gu_X9_best_X9_isNoGate_176 : GoodIn uX9_best (va_wsS RX9 176 yX9_isNoGate uX9_isNoGate) := goodIn_r _ [1, 2, 3, 39] rfl (by decide +kernel)
set_option maxRecDepth 20000 in
theorem gu_X9_best_X9_isOutside_99 : GoodIn uX9_best (va_wsS RX9 99 yX9_isOutside uX9_isOutside) := goodIn_r _ [5, 6, 3, 40] rfl (by decide +kernel)
set_option maxRecDepth 20000 in
theorem gu_X9_best_X9_isNoGauge_205 : GoodIn uX9_best (va_wsS RX9 205 yX9_isNoGauge uX9_isNoGauge) := goodIn_r _ [7, 8, 3, 41] rfl (by decide +kernel)
set_option maxRecDepth 20000 in
theorem gu_X9_best_X9_isNoStore_155 : GoodIn uX9_best (va_wsS RX9 155 yX9_isNoStore uX9_isNoStore) := goodIn_r _ [9, 10, 3, 42] rfl (by decide +kernel)
set_option maxRecDepth 20000 in
theorem gu_X9_best_X9_lacksGate_179 : GoodIn uX9_best (wsV RX9 179 RX9 yX9_lacksGate uX9_lacksGate) := goodIn_r _ [11, 12, 13, 3, 43, 44, 28, 45, 181, 182, 183, 184, 185, 186, 187, 188, 189, 190, 191, 192, 193, 194, 195, 196, 197, 198, 209, 210, 211, 212, 213, 214] rfl (by decide +kernel)
set_option maxRecDepth 20000 in
theorem gu_X9_best_X9_lacksGauge_212 : GoodIn uX9_best (wsV RX9 212 RX9 yX9_lacksGauge uX9_lacksGauge) := goodIn_r _ [14, 15, 16, 3, 46, 44, 30, 47, 48, 49, 50, 51, 52, 181, 182, 183, 184, 185, 186, 187, 188, 189, 190, 191, 192, 193, 194, 195, 196, 197, 198, 215, 216, 217, 218] rfl (by decide +kernel)
set_option maxRecDepth 20000 in
theorem gu_X9_best_X9_lacksStore_160 : GoodIn uX9_best (wsV RX9 160 RX9 yX9_lacksStore uX9_lacksStore) := goodIn_r _ [17, 18, 19, 3, 53, 44, 28, 54, 55, 56, 57, 58, 59, 181, 182, 183, 184, 185, 186, 187, 188, 189, 190, 191, 192, 193, 194, 195, 196, 197, 198, 209, 210, 211, 212, 213, 214] rfl (by decide +kernel)
set_option maxRecDepth 20000 in
theorem gu_X9_best_X9_isBeyond_265 : GoodIn uX9_best (wsV RX9 265 RX9 yX9_isBeyond uX9_isBeyond) := goodIn_r _ [20, 21, 22, 3, 60, 31, 61, 181, 182, 183, 184, 185, 186, 187, 188, 189, 190, 191, 192, 193, 194, 195, 196, 197, 198, 219, 220, 221, 222, 223, 224, 225, 226] rfl (by decide +kernel)
set_option maxRecDepth 20000 in
theorem gu_X9_best_X5_prepare_286 : GoodIn uX9_best (wsV RX9 286 RX5 yX5_prepare uX5_prepare) := goodIn_r _ [24, 25, 26, 27, 62, 63, 64, 65, 66, 67, 68, 199, 200, 201, 202, 203, 204, 205, 206, 207, 208] rfl (by decide +kernel)
set_option maxRecDepth 20000 in
theorem gu_X9_best_X5_tryBlock_0_n : GoodIn uX9_best (uX5_tryBlock_0) := goodIn_r _ [69, 3, 6, 70, 71, 72, 73, 74, 75, 76, 77, 78, 27, 79, 68, 80, 32, 33, 81, 40, 82, 83, 84, 85, 86, 87, 88, 89, 90, 91, 92, 93, 94, 95, 63, 2, 66, 10, 96, 64, 97, 98, 99, 100, 101, 102, 103, 104, 105, 106, 107, 108, 67, 65, 109, 110, 111, 50, 112, 113, 114, 115, 39, 42, 116, 117, 118, 119, 120, 121, 122, 123, 124, 125, 126, 127, 128, 129, 130, 131, 132, 133, 134, 135, 57, 136, 137, 138, 139, 140, 141, 142, 143, 144, 145, 146, 147, 148, 149, 150, 151, 152, 153, 154, 155, 156, 157, 158, 159, 160, 161, 55, 56, 59, 162, 58, 163, 164, 165, 166, 167, 168, 169, 48, 49, 170, 52, 171, 172, 173, 51, 174, 175, 176, 177, 178, 179, 180, 199, 200, 201, 202, 203, 204, 205, 206, 207, 208, 219, 220, 221, 222, 223, 224, 225, 226, 227, 228, 209, 210, 211, 212, 213, 214, 215, 216, 217, 218] rfl (by decide +kernel)
set_option maxHeartbeats 4000000 in
set_option maxRecDepth 100000 in
theorem s_X9_best (l : Launch) (D : va_G) (t : Nat → Nat) (cI cL cC : ClassId) (gC : Int32) (gE : Int32) (G : Nat) (gW : Nat → Int32) (gA : Nat → Int32) (a0 : Nat) (a1 : Int32) (a2 : Int32) (a3 : Int32) (a4 : Int32) (a5 : Int64) (a6 : Int32) (hGb : G ≤ 100000000) (k_a0 : t a0 = 1) : tM l yX9_best uX9_best 9 253 D (gF cI cL cC gC gE G gW gA) (gF cI cL cC gC gE (G + 9324) gW gA) t cI cL cC [.ref a0, .int a1, .int a2, .int a3, .int a4, .long a5, .int a6] wrS (pL (fun r => True)) := by
  refine tM.ofW (cc := cX9_best) (maxL := 8) (ret := (some .long)) (by decide) rfl (Nat.le_of_ble_eq_true rfl) ?_
  intro p e s m below meth c hx hb hr hml hown hts hlk H locs hG hK hE hS ls hl
  have hl : lv_has ls 8 [(0, .ref a0), (1, .int a1), (2, .int a2), (3, .int a3), (4, .int a4), (5, .long a5), (7, .int a6)] := hl
  have in9 : ∀ w ∈ wsX90, w ∈ uX9_best := fun w h => List.mem_cons_of_mem _ (List.mem_append_left _ (List.mem_append_left _ (List.mem_append_left _ (List.mem_append_left _ (List.mem_append_left _ (List.mem_append_right _ h))))))
  have in5 : ∀ w ∈ wsX50, w ∈ uX9_best := fun w h => List.mem_cons_of_mem _ (List.mem_append_left _ (List.mem_append_left _ (List.mem_append_left _ (List.mem_append_left _ (List.mem_append_right _ h)))))
  refine lv_iload_n hx hb dX9_best_0 rfl (lv_at hl 1 rfl) ?_
  refine ty_calli ((W.runS (As := [.int a1]) (rest := []) ⟨hx, hb, hml, hown, hts⟩ (s_X9_isNoGate l D t cI cL cC gC gE G gW gA a1 ) (va_cwS 1 hts gu_X9_best_X9_isNoGate_176 rfl rfl rfl (by decide +kernel) ⟨Nat.le_of_ble_eq_true rfl, Nat.le_of_ble_eq_true rfl⟩) (tP_S hG hE) rfl rfl hl.1 rfl (lv_room (Nat.le_of_ble_eq_true rfl)) dX9_best_1 ⟨Nat.le_of_ble_eq_true rfl, Nat.le_of_ble_eq_true rfl⟩)) hS (fun k h => by simp [wr0] at h) (fun r_1 H locs hp_2 hG hS o_3 => ?_)
  rcases hp_2 with ⟨rfl, hc_226⟩ | ⟨rfl, hc_227, hc_228⟩
  · skip
    refine lv_if_ne (tgt := 24) hx hb dX9_best_4 (by decide) (fun _ => ?_) (fun q => absurd q (by decide))
    refine lv_ldc2 hx hb hown (hts (.constantLong RX9 158 (-1)) (List.mem_of_getElem? (i := 4) rfl)) dX9_best_24 ?_
    exact ty_lret hx hb hr hlk (hG.weak (fun _ _ => gF_mono (by omega))) hS True.intro dX9_best_27
  · skip
    refine lv_if_ne (tgt := 24) hx hb dX9_best_4 (by decide) (fun q => absurd rfl q) (fun _ => ?_)
    refine lv_iload_n hx hb dX9_best_7 rfl (lv_at hl 2 rfl) ?_
    refine lv_pc (pc2 := 8) rfl ?_
    refine lv_iconst (v := 1) hx hb dX9_best_8 (by decide) ?_
    refine lv_bipush (v := 6) hx hb dX9_best_9 (by decide) ?_
    refine ty_calli ((W.runS (As := [.int a2, .int 1, .int 6]) (rest := []) ⟨hx, hb, hml, hown, hts⟩ (s_X9_isOutside l D t cI cL cC gC gE G gW gA a2 1 6 1 6 (by decide) (by decide) ) (va_cwS 3 hts gu_X9_best_X9_isOutside_99 rfl rfl rfl (by decide +kernel) ⟨Nat.le_of_ble_eq_true rfl, Nat.le_of_ble_eq_true rfl⟩) (tP_S hG hE) rfl rfl hl.1 rfl (lv_room (Nat.le_of_ble_eq_true rfl)) dX9_best_11 ⟨Nat.le_of_ble_eq_true rfl, Nat.le_of_ble_eq_true rfl⟩)) hS (fun k h => by simp [wr0] at h) (fun r_4 H locs hp_5 hG hS o_6 => ?_)
    rcases hp_5 with ⟨rfl, hc_229⟩ | ⟨rfl, hc_230, hc_231⟩
    · skip
      refine lv_if_ne (tgt := 24) hx hb dX9_best_14 (by decide) (fun _ => ?_) (fun q => absurd q (by decide))
      refine lv_ldc2 hx hb hown (hts (.constantLong RX9 158 (-1)) (List.mem_of_getElem? (i := 4) rfl)) dX9_best_24 ?_
      exact ty_lret hx hb hr hlk (hG.weak (fun _ _ => gF_mono (by omega))) hS True.intro dX9_best_27
    · skip
      refine lv_if_ne (tgt := 24) hx hb dX9_best_14 (by decide) (fun q => absurd rfl q) (fun _ => ?_)
      refine lv_iload_n hx hb dX9_best_17 rfl (lv_at hl 3 rfl) ?_
      refine lv_pc (pc2 := 18) rfl ?_
      refine ty_calli ((W.runS (As := [.int a3]) (rest := []) ⟨hx, hb, hml, hown, hts⟩ (s_X9_isNoGauge l D t cI cL cC gC gE G gW gA a3 ) (va_cwS 1 hts gu_X9_best_X9_isNoGauge_205 rfl rfl rfl (by decide +kernel) ⟨Nat.le_of_ble_eq_true rfl, Nat.le_of_ble_eq_true rfl⟩) (tP_S hG hE) rfl rfl hl.1 rfl (lv_room (Nat.le_of_ble_eq_true rfl)) dX9_best_18 ⟨Nat.le_of_ble_eq_true rfl, Nat.le_of_ble_eq_true rfl⟩)) hS (fun k h => by simp [wr0] at h) (fun r_7 H locs hp_8 hG hS o_9 => ?_)
      rcases hp_8 with ⟨rfl, hc_232⟩ | ⟨rfl, hc_233, hc_234⟩
      · skip
        refine lv_if_eq (tgt := 28) hx hb dX9_best_21 (by decide) (fun q => absurd q (by decide)) (fun _ => ?_)
        refine lv_ldc2 hx hb hown (hts (.constantLong RX9 158 (-1)) (List.mem_of_getElem? (i := 4) rfl)) dX9_best_24 ?_
        exact ty_lret hx hb hr hlk (hG.weak (fun _ _ => gF_mono (by omega))) hS True.intro dX9_best_27
      · skip
        refine lv_if_eq (tgt := 28) hx hb dX9_best_21 (by decide) (fun _ => ?_) (fun q => absurd (by decide) q)
        refine lv_iload hx hb dX9_best_28 (lv_at hl 4 rfl) ?_
        refine ty_calli ((W.runS (As := [.int a4]) (rest := []) ⟨hx, hb, hml, hown, hts⟩ (s_X9_isNoStore l D t cI cL cC gC gE G gW gA a4 ) (va_cwS 1 hts gu_X9_best_X9_isNoStore_155 rfl rfl rfl (by decide +kernel) ⟨Nat.le_of_ble_eq_true rfl, Nat.le_of_ble_eq_true rfl⟩) (tP_S hG hE) rfl rfl hl.1 rfl (lv_room (Nat.le_of_ble_eq_true rfl)) dX9_best_30 ⟨Nat.le_of_ble_eq_true rfl, Nat.le_of_ble_eq_true rfl⟩)) hS (fun k h => by simp [wr0] at h) (fun r_10 H locs hp_11 hG hS o_12 => ?_)
        rcases hp_11 with ⟨rfl, hc_235⟩ | ⟨rfl, hc_236, hc_237⟩
        · skip
          refine lv_if_ne (tgt := 46) hx hb dX9_best_33 (by decide) (fun _ => ?_) (fun q => absurd q (by decide))
          refine lv_pc (pc2 := 46) rfl ?_
          refine lv_ldc2 hx hb hown (hts (.constantLong RX9 158 (-1)) (List.mem_of_getElem? (i := 4) rfl)) dX9_best_46 ?_
          exact ty_lret hx hb hr hlk (hG.weak (fun _ _ => gF_mono (by omega))) hS True.intro dX9_best_49
        · skip
          refine lv_if_ne (tgt := 46) hx hb dX9_best_33 (by decide) (fun q => absurd rfl q) (fun _ => ?_)
          refine lv_iload hx hb dX9_best_36 (lv_at hl 6 rfl) ?_
          refine lv_iconst (v := (-1)) hx hb dX9_best_38 (by decide) ?_
          refine lv_iconst (v := 3) hx hb dX9_best_39 (by decide) ?_
          refine ty_calli ((W.runS (As := [.int a6, .int (-1), .int 3]) (rest := []) ⟨hx, hb, hml, hown, hts⟩ (s_X9_isOutside l D t cI cL cC gC gE G gW gA a6 (-1) 3 (-1) 3 (by decide) (by decide) ) (va_cwS 3 hts gu_X9_best_X9_isOutside_99 rfl rfl rfl (by decide +kernel) ⟨Nat.le_of_ble_eq_true rfl, Nat.le_of_ble_eq_true rfl⟩) (tP_S hG hE) rfl rfl hl.1 rfl (lv_room (Nat.le_of_ble_eq_true rfl)) dX9_best_40 ⟨Nat.le_of_ble_eq_true rfl, Nat.le_of_ble_eq_true rfl⟩)) hS (fun k h => by simp [wr0] at h) (fun r_13 H locs hp_14 hG hS o_15 => ?_)
          rcases hp_14 with ⟨rfl, hc_238⟩ | ⟨rfl, hc_239, hc_240⟩
          · skip
            refine lv_if_eq (tgt := 50) hx hb dX9_best_43 (by decide) (fun q => absurd q (by decide)) (fun _ => ?_)
            refine lv_pc (pc2 := 46) rfl ?_
            refine lv_ldc2 hx hb hown (hts (.constantLong RX9 158 (-1)) (List.mem_of_getElem? (i := 4) rfl)) dX9_best_46 ?_
            exact ty_lret hx hb hr hlk (hG.weak (fun _ _ => gF_mono (by omega))) hS True.intro dX9_best_49
          · skip
            refine lv_if_eq (tgt := 50) hx hb dX9_best_43 (by decide) (fun _ => ?_) (fun q => absurd (by decide) q)
            refine lv_aload_n hx hb dX9_best_50 rfl (lv_at hl 0 rfl) ?_
            refine lv_iload_n hx hb dX9_best_51 rfl (lv_at hl 1 rfl) ?_
            obtain ⟨r_16, r_18, r_20, r_22, v_24, v_25, r_26, r_28, r_30, r_32, r_34, r_36, r_38, v_40, r_42, r_44, r_46, r_48, at_50, h_17, h_19, h_21, h_23, h_27, h_29, h_31, h_33, h_35, h_37, h_39, h_41, h_43, h_45, h_47, h_49⟩ := gF_o1 hG k_a0
            refine ty_calli ((W.runV (As := [.int a1]) (rest := []) ⟨hx, hb, hml, hown, hts⟩ (s_X9_lacksGate l D t cI cL cC gC gE G gW gA a0 a1 k_a0) (cwV 1 hts gu_X9_best_X9_lacksGate_179 rfl rfl rfl (by decide +kernel) ⟨Nat.le_of_ble_eq_true rfl, Nat.le_of_ble_eq_true rfl⟩) (tP_V hG hE at_50 rfl) rfl rfl hl.1 rfl (lv_room (Nat.le_of_ble_eq_true rfl)) dX9_best_52 ⟨Nat.le_of_ble_eq_true rfl, Nat.le_of_ble_eq_true rfl⟩)) hS (fun k h => by simp [wr0] at h) (fun r_51 H locs hp_52 hG hS o_53 => ?_)
            have at_50 := va_at.keptC at_50 o_53 k_a0 rfl
            rcases hp_52 with rfl | rfl
            · skip
              refine lv_if_ne (tgt := 85) hx hb dX9_best_55 (by decide) (fun q => absurd rfl q) (fun _ => ?_)
              refine lv_aload_n hx hb dX9_best_58 rfl (lv_at hl 0 rfl) ?_
              refine lv_pc (pc2 := 59) rfl ?_
              refine lv_iload_n hx hb dX9_best_59 rfl (lv_at hl 3 rfl) ?_
              refine ty_calli ((W.runV (As := [.int a3]) (rest := []) ⟨hx, hb, hml, hown, hts⟩ (s_X9_lacksGauge l D t cI cL cC gC gE G gW gA a0 a3 k_a0) (cwV 1 hts gu_X9_best_X9_lacksGauge_212 rfl rfl rfl (by decide +kernel) ⟨Nat.le_of_ble_eq_true rfl, Nat.le_of_ble_eq_true rfl⟩) (tP_V hG hE at_50 rfl) rfl rfl hl.1 rfl (lv_room (Nat.le_of_ble_eq_true rfl)) dX9_best_60 ⟨Nat.le_of_ble_eq_true rfl, Nat.le_of_ble_eq_true rfl⟩)) hS (fun k h => by simp [wr0] at h) (fun r_54 H locs hp_55 hG hS o_56 => ?_)
              have at_50 := va_at.keptC at_50 o_56 k_a0 rfl
              rcases hp_55 with rfl | rfl
              · skip
                refine lv_if_ne (tgt := 85) hx hb dX9_best_63 (by decide) (fun q => absurd rfl q) (fun _ => ?_)
                refine lv_aload_n hx hb dX9_best_66 rfl (lv_at hl 0 rfl) ?_
                refine lv_iload hx hb dX9_best_67 (lv_at hl 4 rfl) ?_
                refine ty_calli ((W.runV (As := [.int a4]) (rest := []) ⟨hx, hb, hml, hown, hts⟩ (s_X9_lacksStore l D t cI cL cC gC gE G gW gA a0 a4 k_a0) (cwV 1 hts gu_X9_best_X9_lacksStore_160 rfl rfl rfl (by decide +kernel) ⟨Nat.le_of_ble_eq_true rfl, Nat.le_of_ble_eq_true rfl⟩) (tP_V hG hE at_50 rfl) rfl rfl hl.1 rfl (lv_room (Nat.le_of_ble_eq_true rfl)) dX9_best_69 ⟨Nat.le_of_ble_eq_true rfl, Nat.le_of_ble_eq_true rfl⟩)) hS (fun k h => by simp [wr0] at h) (fun r_57 H locs hp_58 hG hS o_59 => ?_)
                have at_50 := va_at.keptC at_50 o_59 k_a0 rfl
                rcases hp_58 with rfl | rfl
                · skip
                  refine lv_if_ne (tgt := 85) hx hb dX9_best_72 (by decide) (fun q => absurd rfl q) (fun _ => ?_)
                  refine lv_aload_n hx hb dX9_best_75 rfl (lv_at hl 0 rfl) ?_
                  refine lv_pc (pc2 := 76) rfl ?_
                  refine lv_iconst (v := 4) hx hb dX9_best_76 (by decide) ?_
                  refine lv_iload_n hx hb dX9_best_77 rfl (lv_at hl 2 rfl) ?_
                  refine lv_imul hx hb dX9_best_78 ?_
                  refine lv_topi (fun x_60 e_61 => ?_)
                  refine ty_calli ((W.runV (As := [.int x_60]) (rest := []) ⟨hx, hb, hml, hown, hts⟩ (s_X9_isBeyond l D t cI cL cC gC gE G gW gA a0 x_60 k_a0) (cwV 1 hts gu_X9_best_X9_isBeyond_265 rfl rfl rfl (by decide +kernel) ⟨Nat.le_of_ble_eq_true rfl, Nat.le_of_ble_eq_true rfl⟩) (tP_V hG hE at_50 rfl) rfl rfl hl.1 rfl (lv_room (Nat.le_of_ble_eq_true rfl)) dX9_best_79 ⟨Nat.le_of_ble_eq_true rfl, Nat.le_of_ble_eq_true rfl⟩)) hS (fun k h => by simp [wr0] at h) (fun r_62 H locs hp_63 hG hS o_64 => ?_)
                  have at_50 := va_at.keptC at_50 o_64 k_a0 rfl
                  rcases hp_63 with rfl | rfl
                  · skip
                    refine lv_if_eq (tgt := 89) hx hb dX9_best_82 (by decide) (fun _ => ?_) (fun q => absurd (by decide) q)
                    refine lv_aload_n hx hb dX9_best_89 rfl (lv_at hl 0 rfl) ?_
                    refine va_get (D := D) (ci := 8) (v := .ref r_48) (C := RX9) (T := TX9) (N := 18) hx hb hts in9 hown hK (va_one at_50) 0 rfl rfl 17 (by decide) (hts (.fieldLink RX9 95 "RiverModel" "search" "LRiverModel$Search;") (List.mem_of_getElem? (i := 23) rfl)) (fun _ h9 => h9) rfl dX9_best_90 ?_
                    refine lv_iload_n hx hb dX9_best_93 rfl (lv_at hl 1 rfl) ?_
                    refine lv_pc (pc2 := 94) rfl ?_
                    refine lv_iload_n hx hb dX9_best_94 rfl (lv_at hl 2 rfl) ?_
                    refine lv_iload_n hx hb dX9_best_95 rfl (lv_at hl 3 rfl) ?_
                    refine lv_iload hx hb dX9_best_96 (lv_at hl 4 rfl) ?_
                    refine lv_lload hx hb dX9_best_98 (lv_at hl 5 rfl) ?_
                    obtain ⟨r_65, r_67, r_69, v_71, v_72, v_73, v_75, v_77, v_78, v_80, at_81, h_66, h_68, h_70, h_74, h_76, h_79⟩ := gF_o9 hG h_49
                    refine ty_callv ((W.runV (As := [.int a1, .int a2, .int a3, .int a4, .long a5]) (rest := []) ⟨hx, hb, hml, hown, hts⟩ (s_X5_prepare l D t cI cL cC gC gE G gW gA r_48 a1 a2 a3 a4 a5 (by omega) (by omega) (by omega) (by omega) (by omega) (by omega) h_49) (cwV 5 hts gu_X9_best_X5_prepare_286 rfl rfl rfl (by decide +kernel) ⟨Nat.le_of_ble_eq_true rfl, Nat.le_of_ble_eq_true rfl⟩) (tP_V hG hE at_81 rfl) rfl rfl hl.1 rfl (lv_room (Nat.le_of_ble_eq_true rfl)) dX9_best_100 ⟨Nat.le_of_ble_eq_true rfl, Nat.le_of_ble_eq_true rfl⟩)) hS (fun _ h => h) (fun H locs hp_83 hG hS o_84 => ?_)
                    have at_50 := va_at.keptC at_50 o_84 k_a0 rfl
                    refine lv_aload_n hx hb dX9_best_103 rfl (lv_at hl 0 rfl) ?_
                    refine va_get (D := D) (ci := 8) (v := .ref r_48) (C := RX9) (T := TX9) (N := 18) hx hb hts in9 hown hK (va_one at_50) 0 rfl rfl 17 (by decide) (hts (.fieldLink RX9 95 "RiverModel" "search" "LRiverModel$Search;") (List.mem_of_getElem? (i := 23) rfl)) (fun _ h9 => h9) rfl dX9_best_104 ?_
                    refine lv_aload_n hx hb dX9_best_107 rfl (lv_at hl 0 rfl) ?_
                    refine lv_pc (pc2 := 108) rfl ?_
                    refine va_get (D := D) (ci := 8) (v := .ref r_18) (C := RX9) (T := TX9) (N := 18) hx hb hts in9 hown hK (va_one at_50) 0 rfl rfl 1 (by decide) (hts (.fieldLink RX9 19 "RiverModel" "model" "LRiverModel$Model;") (List.mem_of_getElem? (i := 28) rfl)) (fun _ h9 => h9) rfl dX9_best_108 ?_
                    refine lv_aload_n hx hb dX9_best_111 rfl (lv_at hl 0 rfl) ?_
                    refine va_get (D := D) (ci := 8) (v := .ref r_26) (C := RX9) (T := TX9) (N := 18) hx hb hts in9 hown hK (va_one at_50) 0 rfl rfl 6 (by decide) (hts (.fieldLink RX9 39 "RiverModel" "skyA" "LRiverModel$Sky;") (List.mem_of_getElem? (i := 29) rfl)) (fun _ h9 => h9) rfl dX9_best_112 ?_
                    refine lv_aload_n hx hb dX9_best_115 rfl (lv_at hl 0 rfl) ?_
                    refine va_get (D := D) (ci := 8) (v := .ref r_42) (C := RX9) (T := TX9) (N := 18) hx hb hts in9 hown hK (va_one at_50) 0 rfl rfl 14 (by decide) (hts (.fieldLink RX9 74 "RiverModel" "gauges" "LRiverModel$Gauges;") (List.mem_of_getElem? (i := 30) rfl)) (fun _ h9 => h9) rfl dX9_best_116 ?_
                    refine lv_aload_n hx hb dX9_best_119 rfl (lv_at hl 0 rfl) ?_
                    refine va_get (D := D) (ci := 8) (v := .ref r_32) (C := RX9) (T := TX9) (N := 18) hx hb hts in9 hown hK (va_one at_50) 0 rfl rfl 9 (by decide) (hts (.fieldLink RX9 53 "RiverModel" "now" "LRiverModel$Course;") (List.mem_of_getElem? (i := 31) rfl)) (fun _ h9 => h9) rfl dX9_best_120 ?_
                    refine lv_iconst (v := 0) hx hb dX9_best_123 (by decide) ?_
                    refine lv_pc (pc2 := 124) rfl ?_
                    refine lv_lconst (v := 0) hx hb dX9_best_124 (by decide) ?_
                    obtain ⟨r_85, r_87, r_89, v_91, v_92, v_93, v_95, v_97, v_98, v_100, at_101, h_86, h_88, h_90, h_94, h_96, h_99⟩ := gF_o9 hG h_49
                    refine ty_callv (tRun (va_runVN (As := [.ref r_18, .ref r_26, .ref r_42, .ref r_32, .int 0, .long 0]) (rest := []) ⟨hx, hb, hml, hown, hts⟩ (s_X5_tryBlock_0 l D t cI cL cC gC gE G gW gA r_48 r_18 r_26 r_42 r_32 0 (by omega) h_49 h_19 h_27 h_43 h_33) ⟨(va_cnB 6 hts gu_X9_best_X5_tryBlock_0_n rfl rfl rfl (hE.2.1 _ (List.mem_of_getElem? (i := 22) rfl)) (hts (.initialized RX5) (List.mem_of_getElem? (i := 27) rfl)) (by decide +kernel) ⟨Nat.le_of_ble_eq_true rfl, Nat.le_of_ble_eq_true rfl⟩), (hts (.instanceMethod yX5_tryBlock) (List.mem_of_getElem? (i := 32) rfl)), (hts (.selects RX5 yX5_tryBlock yX5_tryBlock) (List.mem_of_getElem? (i := 33) rfl))⟩ (tP_V hG hE at_101 rfl) rfl rfl hl.1 rfl (lv_room (Nat.le_of_ble_eq_true rfl)) dX9_best_125 ⟨Nat.le_of_ble_eq_true rfl, Nat.le_of_ble_eq_true rfl⟩)) hS (fun _ h => h) (fun H locs hp_103 hG hS o_104 => ?_)
                    have at_50 := va_at.keptC at_50 o_104 k_a0 rfl
                    refine lv_aload_n hx hb dX9_best_128 rfl (lv_at hl 0 rfl) ?_
                    refine va_get (D := D) (ci := 8) (v := .ref r_48) (C := RX9) (T := TX9) (N := 18) hx hb hts in9 hown hK (va_one at_50) 0 rfl rfl 17 (by decide) (hts (.fieldLink RX9 95 "RiverModel" "search" "LRiverModel$Search;") (List.mem_of_getElem? (i := 23) rfl)) (fun _ h9 => h9) rfl dX9_best_129 ?_
                    obtain ⟨r_105, r_107, r_109, v_111, v_112, v_113, v_115, v_117, v_118, v_120, at_121, h_106, h_108, h_110, h_114, h_116, h_119⟩ := gF_o9 hG h_49
                    refine va_get (D := D) (ci := 4) (v := .int v_111) (C := RX5) (T := TX5) (N := 10) hx hb hts in5 hown hK (va_one at_121) 0 rfl rfl 3 (by decide) (hts (.fieldLink RX9 294 "RiverModel$Search" "isFound" "Z") (List.mem_of_getElem? (i := 34) rfl)) (fun _ h9 => h9) rfl dX9_best_132 ?_
                    refine lv_if_ne (tgt := 142) hx hb dX9_best_135 (by decide) (fun c_122 => ?_) (fun c_122 => ?_)
                    · skip
                      have c_122 : v_111.toInt ≠ 0 := q_ne c_122
                      refine lv_iload hx hb dX9_best_142 (lv_at hl 6 rfl) ?_
                      refine lv_if_ge (tgt := 157) hx hb dX9_best_144 (by decide) (fun c_123 => ?_) (fun c_123 => ?_)
                      · skip
                        have c_123 : 0 ≤ a6.toInt := q_le c_123
                        refine lv_pc (pc2 := 157) rfl ?_
                        refine lv_aload_n hx hb dX9_best_157 rfl (lv_at hl 0 rfl) ?_
                        refine va_get (D := D) (ci := 8) (v := .ref r_48) (C := RX9) (T := TX9) (N := 18) hx hb hts in9 hown hK (va_one at_50) 0 rfl rfl 17 (by decide) (hts (.fieldLink RX9 95 "RiverModel" "search" "LRiverModel$Search;") (List.mem_of_getElem? (i := 23) rfl)) (fun _ h9 => h9) rfl dX9_best_158 ?_
                        refine va_get (D := D) (ci := 4) (v := .ref r_109) (C := RX5) (T := TX5) (N := 10) hx hb hts in5 hown hK (va_one at_121) 0 rfl rfl 2 (by decide) (hts (.fieldLink RX9 302 "RiverModel$Search" "found" "[I") (List.mem_of_getElem? (i := 35) rfl)) (fun _ h9 => h9) rfl dX9_best_161 ?_
                        refine lv_iload hx hb dX9_best_164 (lv_at hl 6 rfl) ?_
                        obtain ⟨f_124, at_125⟩ := gF_o34 hG h_110
                        have b_126 : vp_in a6 4 := (q_in (by omega) (by omega))
                        refine va_iald hx hb hK (va_one at_125) 0 0 rfl rfl b_126 dX9_best_166 ?_
                        refine lv_topi (fun x_127 e_128 => ?_)
                        refine lv_i2l (v := x_127.toInt64) hx hb dX9_best_167 rfl ?_
                        exact ty_lret hx hb hr hlk hG hS True.intro dX9_best_168
                      · skip
                        have c_123 : a6.toInt < 0 := q_nle c_123
                        refine lv_aload_n hx hb dX9_best_147 rfl (lv_at hl 0 rfl) ?_
                        refine lv_pc (pc2 := 148) rfl ?_
                        refine va_get (D := D) (ci := 8) (v := .ref r_48) (C := RX9) (T := TX9) (N := 18) hx hb hts in9 hown hK (va_one at_50) 0 rfl rfl 17 (by decide) (hts (.fieldLink RX9 95 "RiverModel" "search" "LRiverModel$Search;") (List.mem_of_getElem? (i := 23) rfl)) (fun _ h9 => h9) rfl dX9_best_148 ?_
                        refine va_get (D := D) (ci := 4) (v := .long v_112) (C := RX5) (T := TX5) (N := 10) hx hb hts in5 hown hK (va_one at_121) 0 rfl rfl 4 (by decide) (hts (.fieldLink RX9 299 "RiverModel$Search" "leastPeak" "J") (List.mem_of_getElem? (i := 36) rfl)) (fun _ h9 => h9) rfl dX9_best_151 ?_
                        refine lv_goto (tgt := 168) hx hb dX9_best_154 (by decide) ?_
                        exact ty_lret hx hb hr hlk hG hS True.intro dX9_best_168
                    · skip
                      have c_122 : v_111.toInt = 0 := q_eq c_122
                      refine lv_ldc2 hx hb hown (hts (.constantLong RX9 297 (-4)) (List.mem_of_getElem? (i := 37) rfl)) dX9_best_138 ?_
                      exact ty_lret hx hb hr hlk hG hS True.intro dX9_best_141
                  · skip
                    refine lv_if_eq (tgt := 89) hx hb dX9_best_82 (by decide) (fun q => absurd q (by decide)) (fun _ => ?_)
                    refine lv_ldc2 hx hb hown (hts (.constantLong RX9 163 (-2)) (List.mem_of_getElem? (i := 38) rfl)) dX9_best_85 ?_
                    refine lv_pc (pc2 := 88) rfl ?_
                    exact ty_lret hx hb hr hlk (hG.weak (fun _ _ => gF_mono (by omega))) hS True.intro dX9_best_88
                · skip
                  refine lv_if_ne (tgt := 85) hx hb dX9_best_72 (by decide) (fun _ => ?_) (fun q => absurd q (by decide))
                  refine lv_ldc2 hx hb hown (hts (.constantLong RX9 163 (-2)) (List.mem_of_getElem? (i := 38) rfl)) dX9_best_85 ?_
                  exact ty_lret hx hb hr hlk (hG.weak (fun _ _ => gF_mono (by omega))) hS True.intro dX9_best_88
              · skip
                refine lv_if_ne (tgt := 85) hx hb dX9_best_63 (by decide) (fun _ => ?_) (fun q => absurd q (by decide))
                refine lv_ldc2 hx hb hown (hts (.constantLong RX9 163 (-2)) (List.mem_of_getElem? (i := 38) rfl)) dX9_best_85 ?_
                exact ty_lret hx hb hr hlk (hG.weak (fun _ _ => gF_mono (by omega))) hS True.intro dX9_best_88
            · skip
              refine lv_if_ne (tgt := 85) hx hb dX9_best_55 (by decide) (fun _ => ?_) (fun q => absurd q (by decide))
              refine lv_pc (pc2 := 85) rfl ?_
              refine lv_ldc2 hx hb hown (hts (.constantLong RX9 163 (-2)) (List.mem_of_getElem? (i := 38) rfl)) dX9_best_85 ?_
              exact ty_lret hx hb hr hlk (hG.weak (fun _ _ => gF_mono (by omega))) hS True.intro dX9_best_88

def uX9_swapped : List Cond := .code yX9_swapped cX9_swapped 9 (some .long) :: ([.methodLink RX9 205 yX9_isNoGauge, .static yX9_isNoGauge, .initialized RX9, .constantLong RX9 158 (-1), .methodLink RX9 99 yX9_isOutside, .static yX9_isOutside, .fieldLink RX9 33 "RiverModel" "isOtherLaid" "Z", .constantLong RX9 163 (-2), .methodLink RX9 212 yX9_lacksGauge, .instanceMethod yX9_lacksGauge, .selects RX9 yX9_lacksGauge yX9_lacksGauge, .fieldLink RX9 57 "RiverModel" "trial" "LRiverModel$Course;", .fieldLink RX9 19 "RiverModel" "model" "LRiverModel$Model;", .methodLink RX9 147 yX0_begin, .instanceMethod yX0_begin, .selects RX0 yX0_begin yX0_begin, .initialized RX0, .fieldLink RX9 60 "RiverModel" "second" "LRiverModel$Course;", .fieldLink RX9 26 "RiverModel" "other" "LRiverModel$Model;", .constantLong RX9 297 (-4), .fieldLink RX9 39 "RiverModel" "skyA" "LRiverModel$Sky;", .methodLink RX9 151 yX0_goHourBy, .instanceMethod yX0_goHourBy, .selects RX0 yX0_goHourBy yX0_goHourBy, .fieldLink RX9 74 "RiverModel" "gauges" "LRiverModel$Gauges;", .methodLink RX9 215 yX1_reading, .instanceMethod yX1_reading, .selects RX1 yX1_reading yX1_reading, .initialized RX1, .code yX9_isNoGauge cX9_isNoGauge 1 (some .boolean), .code yX9_isOutside cX9_isOutside 3 (some .boolean), .code yX9_lacksGauge cX9_lacksGauge 2 (some .boolean), .fieldLink RX9 29 "RiverModel" "isBuilt" "Z", .methodLink RX9 346 yX1_isSet, .instanceMethod yX1_isSet, .selects RX1 yX1_isSet yX1_isSet, .code yX1_isSet cX1_isSet 2 (some .boolean), .fieldLink RX1 9 "RiverModel$Gauges" "whats" "[I", .code yX0_begin cX0_begin 3 none, .fieldLink RX0 15 "RiverModel$Course" "moved" "[J", .methodLink RX0 45 yJ7_fill_d0a16, .static yJ7_fill_d0a16, .initialized RJ7, .fieldLink RX0 18 "RiverModel$Course" "openings" "[I", .methodLink RX0 51 yJ7_fill_53178, .static yJ7_fill_53178, .fieldLink RX0 22 "RiverModel$Course" "due" "[J", .fieldLink RX0 25 "RiverModel$Course" "rained" "J", .fieldLink RX0 29 "RiverModel$Course" "air" "J", .fieldLink RX0 32 "RiverModel$Course" "sea" "J", .fieldLink RX0 35 "RiverModel$Course" "hours" "I", .fieldLink RX0 9 "RiverModel$Course" "held" "[J", .methodLink RX0 39 yX4_startOf, .instanceMethod yX4_startOf, .selects RX4 yX4_startOf yX4_startOf, .initialized RX4, .code yJ7_fill_d0a16 cJ7_fill_d0a16 5 none, .code yJ7_fill_53178 cJ7_fill_53178 4 none, .code yX4_startOf cX4_startOf 2 (some .int), .methodLink RX4 66 yX4_hasStore, .instanceMethod yX4_hasStore, .selects RX4 yX4_hasStore yX4_hasStore, .fieldLink RX4 15 "RiverModel$Model" "storeItems" "[I", .methodLink RX4 73 yX4_cell, .instanceMethod yX4_cell, .selects RX4 yX4_cell yX4_cell, .code yX4_hasStore cX4_hasStore 2 (some .boolean), .code yX4_cell cX4_cell 3 (some .int), .fieldLink RX4 9 "RiverModel$Model" "cells" "[I", .code yX0_goHourBy cX0_goHourBy 3 none, .methodLink RX0 60 yX6_rainIn, .instanceMethod yX6_rainIn, .selects RX6 yX6_rainIn yX6_rainIn, .initialized RX6, .methodLink RX0 65 yX6_tempIn, .instanceMethod yX6_tempIn, .selects RX6 yX6_tempIn yX6_tempIn, .methodLink RX0 68 yX0_goHour, .instanceMethod yX0_goHour, .selects RX0 yX0_goHour yX0_goHour, .code yX6_rainIn cX6_rainIn 2 (some .int), .fieldLink RX6 9 "RiverModel$Sky" "rains" "[I", .code yX6_tempIn cX6_tempIn 2 (some .int), .fieldLink RX6 15 "RiverModel$Sky" "temps" "[I", .code yX0_goHour cX0_goHour 7 none, .methodLink RX0 72 yX0_bringDue, .instanceMethod yX0_bringDue, .selects RX0 yX0_bringDue yX0_bringDue, .fieldLink RX0 75 "RiverModel$Model" "many" "I", .methodLink RX0 78 yX0_amountOf, .instanceMethod yX0_amountOf, .selects RX0 yX0_amountOf yX0_amountOf, .methodLink RX0 82 yX0_move, .instanceMethod yX0_move, .selects RX0 yX0_move yX0_move, .code yX0_bringDue cX0_bringDue 3 none, .code yX0_amountOf cX0_amountOf 11 (some .long), .methodLink RX0 86 yX4_cell, .static yX9_isNoStore, .methodLink RX0 110 yX4_gateOf, .instanceMethod yX4_gateOf, .selects RX4 yX4_gateOf yX4_gateOf, .methodLink RX0 113 yX0_openingOf, .instanceMethod yX0_openingOf, .selects RX0 yX0_openingOf yX0_openingOf, .methodLink RX0 107 Lib.MathLoose.min_long.x, .static Lib.MathLoose.min_long.x, .initialized "java/lang/Math", .code Lib.MathLoose.min_long.x Lib.MathLoose.min_long.code 4 (some .long), .methodLink RX0 94 yX0_leakOf, .static yX0_leakOf, .constantLong RX0 117 (100), .methodLink RX0 98 yX4_capacityOf, .instanceMethod yX4_capacityOf, .selects RX4 yX4_capacityOf yX4_capacityOf, .methodLink RX0 101 Lib.MathLoose.max_long.x, .static Lib.MathLoose.max_long.x, .code Lib.MathLoose.max_long.x Lib.MathLoose.max_long.code 4 (some .long), .constantLong RX0 119 (10), .code yX9_isNoStore cX9_isNoStore 1 (some .boolean), .code yX4_gateOf cX4_gateOf 3 (some .int), .fieldLink RX4 28 "RiverModel$Model" "gates" "I", .fieldLink RX4 18 "RiverModel$Model" "gateItems" "[I", .code yX0_openingOf cX0_openingOf 2 (some .long), .static yX9_isNoGate, .code yX9_isNoGate cX9_isNoGate 1 (some .boolean), .code yX0_leakOf cX0_leakOf 8 (some .long), .code yX4_capacityOf cX4_capacityOf 2 (some .int), .code yX0_move cX0_move 8 none, .methodLink RX0 124 yX0_send, .instanceMethod yX0_send, .selects RX0 yX0_send yX0_send, .code yX0_send cX0_send 5 none, .code yX1_reading cX1_reading 4 (some .long), .methodLink RX1 35 yX1_isSet, .fieldLink RX1 15 "RiverModel$Gauges" "places" "[I", .fieldLink RX1 50 "RiverModel$Course" "held" "[J", .static yX9_isNoItem, .fieldLink RX1 41 "RiverModel$Course" "moved" "[J", .code yX9_isNoItem cX9_isNoItem 1 (some .boolean)] ++ wsX90 ++ wsX10 ++ wsX00 ++ wsX40 ++ wsX60)
set_option maxRecDepth 20000 in
theorem gu_X9_swapped_X9_isNoGauge_205 : GoodIn uX9_swapped (va_wsS RX9 205 yX9_isNoGauge uX9_isNoGauge) := goodIn_r _ [1, 2, 3, 30] rfl (by decide +kernel)
set_option maxRecDepth 20000 in
theorem gu_X9_swapped_X9_isOutside_99 : GoodIn uX9_swapped (va_wsS RX9 99 yX9_isOutside uX9_isOutside) := goodIn_r _ [5, 6, 3, 31] rfl (by decide +kernel)
set_option maxRecDepth 20000 in
theorem gu_X9_swapped_X9_lacksGauge_212 : GoodIn uX9_swapped (wsV RX9 212 RX9 yX9_lacksGauge uX9_lacksGauge) := goodIn_r _ [9, 10, 11, 3, 32, 33, 25, 34, 35, 36, 29, 37, 38, 141, 142, 143, 144, 145, 146, 147, 148, 149, 150, 151, 152, 153, 154, 155, 156, 157, 158, 159, 160, 161, 162] rfl (by decide +kernel)
set_option maxRecDepth 20000 in
theorem gu_X9_swapped_X0_begin_147 : GoodIn uX9_swapped (wsV RX9 147 RX0 yX0_begin uX0_begin) := goodIn_r _ [14, 15, 16, 17, 39, 40, 41, 42, 43, 44, 45, 46, 47, 48, 49, 50, 51, 52, 53, 54, 55, 56, 57, 58, 59, 60, 61, 62, 63, 64, 65, 66, 67, 68, 69, 163, 164, 165, 166, 167, 168, 169, 170, 171, 172, 173, 174, 175, 176] rfl (by decide +kernel)
set_option maxRecDepth 20000 in
theorem gu_X9_swapped_X0_goHourBy_151 : GoodIn uX9_swapped (wsV RX9 151 RX0 yX0_goHourBy uX0_goHourBy) := goodIn_r _ [22, 23, 24, 17, 70, 51, 71, 72, 73, 74, 75, 76, 77, 78, 79, 80, 17, 81, 3, 6, 82, 31, 83, 84, 85, 86, 87, 88, 89, 90, 91, 92, 40, 93, 94, 95, 96, 52, 47, 97, 98, 65, 66, 56, 99, 100, 101, 102, 103, 104, 105, 106, 107, 108, 109, 110, 111, 112, 113, 114, 115, 116, 117, 118, 119, 68, 69, 120, 121, 122, 123, 124, 125, 44, 126, 127, 128, 60, 61, 62, 63, 64, 67, 129, 48, 130, 131, 132, 50, 49, 133, 163, 164, 165, 166, 167, 168, 169, 170, 177, 178, 171, 172, 173, 174, 175, 176] rfl (by decide +kernel)
set_option maxRecDepth 20000 in
theorem gu_X9_swapped_X1_reading_215 : GoodIn uX9_swapped (wsV RX9 215 RX1 yX1_reading uX1_reading) := goodIn_r _ [26, 27, 28, 29, 134, 135, 35, 36, 29, 136, 38, 3, 99, 137, 138, 139, 37, 120, 140, 159, 160, 161, 162, 163, 164, 165, 166, 167, 168, 169, 170] rfl (by decide +kernel)
set_option maxHeartbeats 4000000 in
set_option maxRecDepth 100000 in
theorem s_X9_swapped (l : Launch) (D : va_G) (t : Nat → Nat) (cI cL cC : ClassId) (gC : Int32) (gE : Int32) (G : Nat) (gW : Nat → Int32) (gA : Nat → Int32) (a0 : Nat) (a1 : Int32) (a2 : Int32) (a3 : Int32) (hGb : G ≤ 100000000) (k_a0 : t a0 = 1) : tM l yX9_swapped uX9_swapped 5 121 D (gF cI cL cC gC gE G gW gA) (gF cI cL cC gC gE (G + 192) gW gA) t cI cL cC [.ref a0, .int a1, .int a2, .int a3] wrC (pL (fun r => True)) := by
  refine tM.ofW (cc := cX9_swapped) (maxL := 9) (ret := (some .long)) (by decide) rfl (Nat.le_of_ble_eq_true rfl) ?_
  intro p e s m below meth c hx hb hr hml hown hts hlk H locs hG hK hE hS ls hl
  have hl : lv_has ls 9 [(0, .ref a0), (1, .int a1), (2, .int a2), (3, .int a3)] := hl
  have in9 : ∀ w ∈ wsX90, w ∈ uX9_swapped := fun w h => List.mem_cons_of_mem _ (List.mem_append_left _ (List.mem_append_left _ (List.mem_append_left _ (List.mem_append_left _ (List.mem_append_right _ h)))))
  refine lv_iload_n hx hb dX9_swapped_0 rfl (lv_at hl 1 rfl) ?_
  refine ty_calli ((W.runS (As := [.int a1]) (rest := []) ⟨hx, hb, hml, hown, hts⟩ (s_X9_isNoGauge l D t cI cL cC gC gE G gW gA a1 ) (va_cwS 1 hts gu_X9_swapped_X9_isNoGauge_205 rfl rfl rfl (by decide +kernel) ⟨Nat.le_of_ble_eq_true rfl, Nat.le_of_ble_eq_true rfl⟩) (tP_S hG hE) rfl rfl hl.1 rfl (lv_room (Nat.le_of_ble_eq_true rfl)) dX9_swapped_1 ⟨Nat.le_of_ble_eq_true rfl, Nat.le_of_ble_eq_true rfl⟩)) hS (fun k h => by simp [wr0] at h) (fun r_1 H locs hp_2 hG hS o_3 => ?_)
  rcases hp_2 with ⟨rfl, hc_244⟩ | ⟨rfl, hc_245, hc_246⟩
  · skip
    refine lv_if_ne (tgt := 26) hx hb dX9_swapped_4 (by decide) (fun _ => ?_) (fun q => absurd q (by decide))
    refine lv_ldc2 hx hb hown (hts (.constantLong RX9 158 (-1)) (List.mem_of_getElem? (i := 4) rfl)) dX9_swapped_26 ?_
    exact ty_lret hx hb hr hlk (hG.weak (fun _ _ => gF_mono (by omega))) hS True.intro dX9_swapped_29
  · skip
    refine lv_if_ne (tgt := 26) hx hb dX9_swapped_4 (by decide) (fun q => absurd rfl q) (fun _ => ?_)
    refine lv_iload_n hx hb dX9_swapped_7 rfl (lv_at hl 2 rfl) ?_
    refine lv_pc (pc2 := 8) rfl ?_
    refine lv_iconst (v := 1) hx hb dX9_swapped_8 (by decide) ?_
    refine lv_bipush (v := 96) hx hb dX9_swapped_9 (by decide) ?_
    refine ty_calli ((W.runS (As := [.int a2, .int 1, .int 96]) (rest := []) ⟨hx, hb, hml, hown, hts⟩ (s_X9_isOutside l D t cI cL cC gC gE G gW gA a2 1 96 1 96 (by decide) (by decide) ) (va_cwS 3 hts gu_X9_swapped_X9_isOutside_99 rfl rfl rfl (by decide +kernel) ⟨Nat.le_of_ble_eq_true rfl, Nat.le_of_ble_eq_true rfl⟩) (tP_S hG hE) rfl rfl hl.1 rfl (lv_room (Nat.le_of_ble_eq_true rfl)) dX9_swapped_11 ⟨Nat.le_of_ble_eq_true rfl, Nat.le_of_ble_eq_true rfl⟩)) hS (fun k h => by simp [wr0] at h) (fun r_4 H locs hp_5 hG hS o_6 => ?_)
    rcases hp_5 with ⟨rfl, hc_247⟩ | ⟨rfl, hc_248, hc_249⟩
    · skip
      refine lv_if_ne (tgt := 26) hx hb dX9_swapped_14 (by decide) (fun _ => ?_) (fun q => absurd q (by decide))
      refine lv_ldc2 hx hb hown (hts (.constantLong RX9 158 (-1)) (List.mem_of_getElem? (i := 4) rfl)) dX9_swapped_26 ?_
      exact ty_lret hx hb hr hlk (hG.weak (fun _ _ => gF_mono (by omega))) hS True.intro dX9_swapped_29
    · skip
      refine lv_if_ne (tgt := 26) hx hb dX9_swapped_14 (by decide) (fun q => absurd rfl q) (fun _ => ?_)
      refine lv_iload_n hx hb dX9_swapped_17 rfl (lv_at hl 3 rfl) ?_
      refine lv_pc (pc2 := 18) rfl ?_
      refine lv_iconst (v := 0) hx hb dX9_swapped_18 (by decide) ?_
      refine lv_iconst (v := 1) hx hb dX9_swapped_19 (by decide) ?_
      refine ty_calli ((W.runS (As := [.int a3, .int 0, .int 1]) (rest := []) ⟨hx, hb, hml, hown, hts⟩ (s_X9_isOutside l D t cI cL cC gC gE G gW gA a3 0 1 0 1 (by decide) (by decide) ) (va_cwS 3 hts gu_X9_swapped_X9_isOutside_99 rfl rfl rfl (by decide +kernel) ⟨Nat.le_of_ble_eq_true rfl, Nat.le_of_ble_eq_true rfl⟩) (tP_S hG hE) rfl rfl hl.1 rfl (lv_room (Nat.le_of_ble_eq_true rfl)) dX9_swapped_20 ⟨Nat.le_of_ble_eq_true rfl, Nat.le_of_ble_eq_true rfl⟩)) hS (fun k h => by simp [wr0] at h) (fun r_7 H locs hp_8 hG hS o_9 => ?_)
      rcases hp_8 with ⟨rfl, hc_250⟩ | ⟨rfl, hc_251, hc_252⟩
      · skip
        refine lv_if_eq (tgt := 30) hx hb dX9_swapped_23 (by decide) (fun q => absurd q (by decide)) (fun _ => ?_)
        refine lv_ldc2 hx hb hown (hts (.constantLong RX9 158 (-1)) (List.mem_of_getElem? (i := 4) rfl)) dX9_swapped_26 ?_
        exact ty_lret hx hb hr hlk (hG.weak (fun _ _ => gF_mono (by omega))) hS True.intro dX9_swapped_29
      · skip
        refine lv_if_eq (tgt := 30) hx hb dX9_swapped_23 (by decide) (fun _ => ?_) (fun q => absurd (by decide) q)
        refine lv_aload_n hx hb dX9_swapped_30 rfl (lv_at hl 0 rfl) ?_
        refine lv_pc (pc2 := 31) rfl ?_
        obtain ⟨r_10, r_12, r_14, r_16, v_18, v_19, r_20, r_22, r_24, r_26, r_28, r_30, r_32, v_34, r_36, r_38, r_40, r_42, at_44, h_11, h_13, h_15, h_17, h_21, h_23, h_25, h_27, h_29, h_31, h_33, h_35, h_37, h_39, h_41, h_43⟩ := gF_o1 hG k_a0
        refine va_get (D := D) (ci := 8) (v := .int v_19) (C := RX9) (T := TX9) (N := 18) hx hb hts in9 hown hK (va_one at_44) 0 rfl rfl 5 (by decide) (hts (.fieldLink RX9 33 "RiverModel" "isOtherLaid" "Z") (List.mem_of_getElem? (i := 7) rfl)) (fun _ h9 => h9) rfl dX9_swapped_31 ?_
        refine lv_if_eq (tgt := 45) hx hb dX9_swapped_34 (by decide) (fun c_45 => ?_) (fun c_45 => ?_)
        · skip
          have c_45 : v_19.toInt = 0 := q_eq c_45
          refine lv_ldc2 hx hb hown (hts (.constantLong RX9 163 (-2)) (List.mem_of_getElem? (i := 8) rfl)) dX9_swapped_45 ?_
          exact ty_lret hx hb hr hlk (hG.weak (fun _ _ => gF_mono (by omega))) hS True.intro dX9_swapped_48
        · skip
          have c_45 : v_19.toInt ≠ 0 := q_ne c_45
          refine lv_aload_n hx hb dX9_swapped_37 rfl (lv_at hl 0 rfl) ?_
          refine lv_iload_n hx hb dX9_swapped_38 rfl (lv_at hl 1 rfl) ?_
          refine ty_calli ((W.runV (As := [.int a1]) (rest := []) ⟨hx, hb, hml, hown, hts⟩ (s_X9_lacksGauge l D t cI cL cC gC gE G gW gA a0 a1 k_a0) (cwV 1 hts gu_X9_swapped_X9_lacksGauge_212 rfl rfl rfl (by decide +kernel) ⟨Nat.le_of_ble_eq_true rfl, Nat.le_of_ble_eq_true rfl⟩) (tP_V hG hE at_44 rfl) rfl rfl hl.1 rfl (lv_room (Nat.le_of_ble_eq_true rfl)) dX9_swapped_39 ⟨Nat.le_of_ble_eq_true rfl, Nat.le_of_ble_eq_true rfl⟩)) hS (fun k h => by simp [wr0] at h) (fun r_46 H locs hp_47 hG hS o_48 => ?_)
          have at_44 := va_at.keptC at_44 o_48 k_a0 rfl
          rcases hp_47 with rfl | rfl
          · skip
            refine lv_if_eq (tgt := 49) hx hb dX9_swapped_42 (by decide) (fun _ => ?_) (fun q => absurd (by decide) q)
            refine lv_pc (pc2 := 49) rfl ?_
            refine lv_aload_n hx hb dX9_swapped_49 rfl (lv_at hl 0 rfl) ?_
            refine va_get (D := D) (ci := 8) (v := .ref r_28) (C := RX9) (T := TX9) (N := 18) hx hb hts in9 hown hK (va_one at_44) 0 rfl rfl 10 (by decide) (hts (.fieldLink RX9 57 "RiverModel" "trial" "LRiverModel$Course;") (List.mem_of_getElem? (i := 12) rfl)) (fun _ h9 => h9) rfl dX9_swapped_50 ?_
            refine lv_aload_n hx hb dX9_swapped_53 rfl (lv_at hl 0 rfl) ?_
            refine va_get (D := D) (ci := 8) (v := .ref r_12) (C := RX9) (T := TX9) (N := 18) hx hb hts in9 hown hK (va_one at_44) 0 rfl rfl 1 (by decide) (hts (.fieldLink RX9 19 "RiverModel" "model" "LRiverModel$Model;") (List.mem_of_getElem? (i := 13) rfl)) (fun _ h9 => h9) rfl dX9_swapped_54 ?_
            obtain ⟨r_49, r_51, r_53, r_55, v_57, v_58, v_59, v_60, at_62, h_50, h_52, h_54, h_56, h_61⟩ := gF_o5 hG h_29
            refine ty_callv ((W.runV (As := [.ref r_12]) (rest := []) ⟨hx, hb, hml, hown, hts⟩ (s_X0_begin l D t cI cL cC gC gE G gW gA r_28 r_12 h_29 h_13) (cwV 1 hts gu_X9_swapped_X0_begin_147 rfl rfl rfl (by decide +kernel) ⟨Nat.le_of_ble_eq_true rfl, Nat.le_of_ble_eq_true rfl⟩) (tP_V hG hE at_62 rfl) rfl rfl hl.1 rfl (lv_room (Nat.le_of_ble_eq_true rfl)) dX9_swapped_57 ⟨Nat.le_of_ble_eq_true rfl, Nat.le_of_ble_eq_true rfl⟩)) hS (fun _ h => h) (fun H locs hp_64 hG hS o_65 => ?_)
            have at_44 := va_at.keptC at_44 o_65 k_a0 rfl
            refine lv_aload_n hx hb dX9_swapped_60 rfl (lv_at hl 0 rfl) ?_
            refine va_get (D := D) (ci := 8) (v := .ref r_30) (C := RX9) (T := TX9) (N := 18) hx hb hts in9 hown hK (va_one at_44) 0 rfl rfl 11 (by decide) (hts (.fieldLink RX9 60 "RiverModel" "second" "LRiverModel$Course;") (List.mem_of_getElem? (i := 18) rfl)) (fun _ h9 => h9) rfl dX9_swapped_61 ?_
            refine lv_aload_n hx hb dX9_swapped_64 rfl (lv_at hl 0 rfl) ?_
            refine lv_pc (pc2 := 65) rfl ?_
            refine va_get (D := D) (ci := 8) (v := .ref r_16) (C := RX9) (T := TX9) (N := 18) hx hb hts in9 hown hK (va_one at_44) 0 rfl rfl 3 (by decide) (hts (.fieldLink RX9 26 "RiverModel" "other" "LRiverModel$Model;") (List.mem_of_getElem? (i := 19) rfl)) (fun _ h9 => h9) rfl dX9_swapped_65 ?_
            obtain ⟨r_66, r_68, r_70, r_72, v_74, v_75, v_76, v_77, at_79, h_67, h_69, h_71, h_73, h_78⟩ := gF_o5 hG h_31
            refine ty_callv ((W.runV (As := [.ref r_16]) (rest := []) ⟨hx, hb, hml, hown, hts⟩ (s_X0_begin l D t cI cL cC gC gE G gW gA r_30 r_16 h_31 h_17) (cwV 1 hts gu_X9_swapped_X0_begin_147 rfl rfl rfl (by decide +kernel) ⟨Nat.le_of_ble_eq_true rfl, Nat.le_of_ble_eq_true rfl⟩) (tP_V hG hE at_79 rfl) rfl rfl hl.1 rfl (lv_room (Nat.le_of_ble_eq_true rfl)) dX9_swapped_68 ⟨Nat.le_of_ble_eq_true rfl, Nat.le_of_ble_eq_true rfl⟩)) hS (fun _ h => h) (fun H locs hp_81 hG hS o_82 => ?_)
            have at_44 := va_at.keptC at_44 o_82 k_a0 rfl
            refine lv_lconst (v := 0) hx hb dX9_swapped_71 (by decide) ?_
            refine lv_lstore (lv' := [(4, .long 0), (0, .ref a0), (1, .int a1), (2, .int a2), (3, .int a3)]) hx hb dX9_swapped_72 hl (by decide) rfl (fun ls hl => ?_)
            refine lv_iconst (v := 0) hx hb dX9_swapped_74 (by decide) ?_
            refine lv_istore (lv' := [(6, .int 0), (4, .long 0), (0, .ref a0), (1, .int a1), (2, .int a2), (3, .int a3)]) hx hb dX9_swapped_75 hl (by decide) rfl (fun ls hl => ?_)
            refine lv_pc (pc2 := 77) rfl ?_
            refine lp_gen (fun WW hWW => ?_)
            have kx : ∀ (yh : Int32) (ys : Int64) (g : Nat) (H1 : Heap) (locs1 : List Loc) (ls1 : Array Slot), 0 ≤ yh.toInt → yh.toInt ≤ 96 → (g : Int) + 2 * (96 - yh.toInt) ≤ (G : Int) + 192 → tG D (gF cI cL cC gC gE g gW gA) t H1 → tF t wrC s.heap H1 locs1 → lv_has ls1 9 [(6, .int yh), (4, .long ys), (0, .ref a0), (1, .int a1), (2, .int a2), (3, .int a3)] → WW H1 locs1 (F0 m 168 ls1 []) := by
              intro yh ys g H locs ls v0 v1 v2 hG hS hl
              refine (hWW _ _ _).mpr ?_
              refine lv_iload_n hx hb dX9_swapped_168 rfl (lv_at hl 5 rfl) ?_
              refine lv_if_ne (tgt := 178) hx hb dX9_swapped_169 (by decide) (fun c_83 => ?_) (fun c_83 => ?_)
              · skip
                have c_83 : a3.toInt ≠ 0 := q_ne c_83
                refine lv_pc (pc2 := 178) rfl ?_
                refine lv_lload hx hb dX9_swapped_178 (lv_at hl 1 rfl) ?_
                exact ty_lret hx hb hr hlk (hG.weak (fun _ _ => gF_mono (by omega))) hS True.intro dX9_swapped_180
              · skip
                have c_83 : a3.toInt = 0 := q_eq c_83
                refine lv_ldc2 hx hb hown (hts (.constantLong RX9 297 (-4)) (List.mem_of_getElem? (i := 20) rfl)) dX9_swapped_172 ?_
                refine lv_goto (tgt := 180) hx hb dX9_swapped_175 (by decide) ?_
                exact ty_lret hx hb hr hlk (hG.weak (fun _ _ => gF_mono (by omega))) hS True.intro dX9_swapped_180
            have loop : ∀ (k : Nat) (yh : Int32) (ys : Int64) (g : Nat) (H1 : Heap) (locs1 : List Loc) (ls1 : Array Slot), 96 - yh.toInt ≤ (k : Int) → 0 ≤ yh.toInt → yh.toInt ≤ 96 → (g : Int) + 2 * (96 - yh.toInt) ≤ (G : Int) + 192 → tG D (gF cI cL cC gC gE g gW gA) t H1 → tF t wrC s.heap H1 locs1 → lv_has ls1 9 [(6, .int yh), (4, .long ys), (0, .ref a0), (1, .int a1), (2, .int a2), (3, .int a3)] → WW H1 locs1 (F0 m 77 ls1 []) := by
              intro k
              induction k with
              | zero =>
                intro yh ys g H locs ls hk v0 v1 v2 hG hS hl
                refine (hWW _ _ _).mpr ?_
                refine lv_iload hx hb dX9_swapped_77 (lv_at hl 0 rfl) ?_
                refine lv_iload_n hx hb dX9_swapped_79 rfl (lv_at hl 4 rfl) ?_
                refine lv_icmp_ge (tgt := 168) hx hb dX9_swapped_80 (by decide) (fun c_84 => ?_) (fun c_84 => ?_)
                · skip
                  have c_84 : a2.toInt ≤ yh.toInt := q_le c_84
                  exact (hWW _ _ _).mp (kx yh ys g H locs ls (by omega) (by omega) (by omega) hG hS (lv_sub hl [0, 1, 2, 3, 4, 5] rfl))
                · skip
                  have c_84 : yh.toInt < a2.toInt := q_nle c_84
                  refine lv_pc (pc2 := 83) rfl ?_
                  refine lv_aload_n hx hb dX9_swapped_83 rfl (lv_at hl 2 rfl) ?_
                  obtain ⟨r_85, r_87, r_89, r_91, v_93, v_94, r_95, r_97, r_99, r_101, r_103, r_105, r_107, v_109, r_111, r_113, r_115, r_117, at_119, h_86, h_88, h_90, h_92, h_96, h_98, h_100, h_102, h_104, h_106, h_108, h_110, h_112, h_114, h_116, h_118⟩ := gF_o1 hG k_a0
                  refine va_get (D := D) (ci := 8) (v := .ref r_103) (C := RX9) (T := TX9) (N := 18) hx hb hts in9 hown hK (va_one at_119) 0 rfl rfl 10 (by decide) (hts (.fieldLink RX9 57 "RiverModel" "trial" "LRiverModel$Course;") (List.mem_of_getElem? (i := 12) rfl)) (fun _ h9 => h9) rfl dX9_swapped_84 ?_
                  refine lv_aload_n hx hb dX9_swapped_87 rfl (lv_at hl 2 rfl) ?_
                  refine va_get (D := D) (ci := 8) (v := .ref r_87) (C := RX9) (T := TX9) (N := 18) hx hb hts in9 hown hK (va_one at_119) 0 rfl rfl 1 (by decide) (hts (.fieldLink RX9 19 "RiverModel" "model" "LRiverModel$Model;") (List.mem_of_getElem? (i := 13) rfl)) (fun _ h9 => h9) rfl dX9_swapped_88 ?_
                  refine lv_aload_n hx hb dX9_swapped_91 rfl (lv_at hl 2 rfl) ?_
                  refine va_get (D := D) (ci := 8) (v := .ref r_95) (C := RX9) (T := TX9) (N := 18) hx hb hts in9 hown hK (va_one at_119) 0 rfl rfl 6 (by decide) (hts (.fieldLink RX9 39 "RiverModel" "skyA" "LRiverModel$Sky;") (List.mem_of_getElem? (i := 21) rfl)) (fun _ h9 => h9) rfl dX9_swapped_92 ?_
                  obtain ⟨r_120, r_122, r_124, r_126, v_128, v_129, v_130, v_131, at_133, h_121, h_123, h_125, h_127, h_132⟩ := gF_o5 hG h_104
                  refine ty_callv ((W.runV (As := [.ref r_87, .ref r_95]) (rest := []) ⟨hx, hb, hml, hown, hts⟩ (s_X0_goHourBy l D t cI cL cC gC gE g gW gA r_103 r_87 r_95 (by omega) h_104 h_88 h_96) (cwV 2 hts gu_X9_swapped_X0_goHourBy_151 rfl rfl rfl (by decide +kernel) ⟨Nat.le_of_ble_eq_true rfl, Nat.le_of_ble_eq_true rfl⟩) (tP_V hG hE at_133 rfl) rfl rfl hl.1 rfl (lv_room (Nat.le_of_ble_eq_true rfl)) dX9_swapped_95 ⟨Nat.le_of_ble_eq_true rfl, Nat.le_of_ble_eq_true rfl⟩)) hS (fun _ h => h) (fun H locs hp_135 hG hS o_136 => ?_)
                  have at_119 := va_at.keptC at_119 o_136 k_a0 rfl
                  refine lv_aload_n hx hb dX9_swapped_98 rfl (lv_at hl 2 rfl) ?_
                  refine lv_pc (pc2 := 99) rfl ?_
                  refine va_get (D := D) (ci := 8) (v := .ref r_105) (C := RX9) (T := TX9) (N := 18) hx hb hts in9 hown hK (va_one at_119) 0 rfl rfl 11 (by decide) (hts (.fieldLink RX9 60 "RiverModel" "second" "LRiverModel$Course;") (List.mem_of_getElem? (i := 18) rfl)) (fun _ h9 => h9) rfl dX9_swapped_99 ?_
                  refine lv_aload_n hx hb dX9_swapped_102 rfl (lv_at hl 2 rfl) ?_
                  refine va_get (D := D) (ci := 8) (v := .ref r_91) (C := RX9) (T := TX9) (N := 18) hx hb hts in9 hown hK (va_one at_119) 0 rfl rfl 3 (by decide) (hts (.fieldLink RX9 26 "RiverModel" "other" "LRiverModel$Model;") (List.mem_of_getElem? (i := 19) rfl)) (fun _ h9 => h9) rfl dX9_swapped_103 ?_
                  refine lv_aload_n hx hb dX9_swapped_106 rfl (lv_at hl 2 rfl) ?_
                  refine va_get (D := D) (ci := 8) (v := .ref r_95) (C := RX9) (T := TX9) (N := 18) hx hb hts in9 hown hK (va_one at_119) 0 rfl rfl 6 (by decide) (hts (.fieldLink RX9 39 "RiverModel" "skyA" "LRiverModel$Sky;") (List.mem_of_getElem? (i := 21) rfl)) (fun _ h9 => h9) rfl dX9_swapped_107 ?_
                  obtain ⟨r_137, r_139, r_141, r_143, v_145, v_146, v_147, v_148, at_150, h_138, h_140, h_142, h_144, h_149⟩ := gF_o5 hG h_106
                  refine ty_callv ((W.runV (As := [.ref r_91, .ref r_95]) (rest := []) ⟨hx, hb, hml, hown, hts⟩ (s_X0_goHourBy l D t cI cL cC gC gE (g + 1) gW gA r_105 r_91 r_95 (by omega) h_106 h_92 h_96) (cwV 2 hts gu_X9_swapped_X0_goHourBy_151 rfl rfl rfl (by decide +kernel) ⟨Nat.le_of_ble_eq_true rfl, Nat.le_of_ble_eq_true rfl⟩) (tP_V hG hE at_150 rfl) rfl rfl hl.1 rfl (lv_room (Nat.le_of_ble_eq_true rfl)) dX9_swapped_110 ⟨Nat.le_of_ble_eq_true rfl, Nat.le_of_ble_eq_true rfl⟩)) hS (fun _ h => h) (fun H locs hp_152 hG hS o_153 => ?_)
                  have at_119 := va_at.keptC at_119 o_153 k_a0 rfl
                  refine lv_aload_n hx hb dX9_swapped_113 rfl (lv_at hl 2 rfl) ?_
                  refine va_get (D := D) (ci := 8) (v := .ref r_111) (C := RX9) (T := TX9) (N := 18) hx hb hts in9 hown hK (va_one at_119) 0 rfl rfl 14 (by decide) (hts (.fieldLink RX9 74 "RiverModel" "gauges" "LRiverModel$Gauges;") (List.mem_of_getElem? (i := 25) rfl)) (fun _ h9 => h9) rfl dX9_swapped_114 ?_
                  refine lv_pc (pc2 := 117) rfl ?_
                  refine lv_aload_n hx hb dX9_swapped_117 rfl (lv_at hl 2 rfl) ?_
                  refine va_get (D := D) (ci := 8) (v := .ref r_105) (C := RX9) (T := TX9) (N := 18) hx hb hts in9 hown hK (va_one at_119) 0 rfl rfl 11 (by decide) (hts (.fieldLink RX9 60 "RiverModel" "second" "LRiverModel$Course;") (List.mem_of_getElem? (i := 18) rfl)) (fun _ h9 => h9) rfl dX9_swapped_118 ?_
                  refine lv_iload_n hx hb dX9_swapped_121 rfl (lv_at hl 3 rfl) ?_
                  obtain ⟨r_154, r_156, r_158, at_160, h_155, h_157, h_159⟩ := gF_o6 hG h_112
                  refine ty_calll ((W.runV (As := [.ref r_105, .int a1]) (rest := []) ⟨hx, hb, hml, hown, hts⟩ (s_X1_reading l D t cI cL cC gC gE (g + 2) gW gA r_111 r_105 a1 h_112 h_106) (cwV 2 hts gu_X9_swapped_X1_reading_215 rfl rfl rfl (by decide +kernel) ⟨Nat.le_of_ble_eq_true rfl, Nat.le_of_ble_eq_true rfl⟩) (tP_V hG hE at_160 rfl) rfl rfl hl.1 rfl (lv_room (Nat.le_of_ble_eq_true rfl)) dX9_swapped_122 ⟨Nat.le_of_ble_eq_true rfl, Nat.le_of_ble_eq_true rfl⟩)) hS (fun k h => by simp [wr0] at h) (fun z_161 H locs hp_162 hG hS o_163 => ?_)
                  have at_119 := va_at.keptC at_119 o_163 k_a0 rfl
                  have at_160 := va_at.keptC at_160 o_163 h_112 rfl
                  refine lv_aload_n hx hb dX9_swapped_125 rfl (lv_at hl 2 rfl) ?_
                  refine va_get (D := D) (ci := 8) (v := .ref r_111) (C := RX9) (T := TX9) (N := 18) hx hb hts in9 hown hK (va_one at_119) 0 rfl rfl 14 (by decide) (hts (.fieldLink RX9 74 "RiverModel" "gauges" "LRiverModel$Gauges;") (List.mem_of_getElem? (i := 25) rfl)) (fun _ h9 => h9) rfl dX9_swapped_126 ?_
                  refine lv_aload_n hx hb dX9_swapped_129 rfl (lv_at hl 2 rfl) ?_
                  refine va_get (D := D) (ci := 8) (v := .ref r_103) (C := RX9) (T := TX9) (N := 18) hx hb hts in9 hown hK (va_one at_119) 0 rfl rfl 10 (by decide) (hts (.fieldLink RX9 57 "RiverModel" "trial" "LRiverModel$Course;") (List.mem_of_getElem? (i := 12) rfl)) (fun _ h9 => h9) rfl dX9_swapped_130 ?_
                  refine lv_pc (pc2 := 133) rfl ?_
                  refine lv_iload_n hx hb dX9_swapped_133 rfl (lv_at hl 3 rfl) ?_
                  refine ty_calll ((W.runV (As := [.ref r_103, .int a1]) (rest := [.long z_161]) ⟨hx, hb, hml, hown, hts⟩ (s_X1_reading l D t cI cL cC gC gE (g + 2) gW gA r_111 r_103 a1 h_112 h_104) (cwV 2 hts gu_X9_swapped_X1_reading_215 rfl rfl rfl (by decide +kernel) ⟨Nat.le_of_ble_eq_true rfl, Nat.le_of_ble_eq_true rfl⟩) (tP_V hG hE at_160 rfl) rfl rfl hl.1 rfl (lv_room (Nat.le_of_ble_eq_true rfl)) dX9_swapped_134 ⟨Nat.le_of_ble_eq_true rfl, Nat.le_of_ble_eq_true rfl⟩)) hS (fun k h => by simp [wr0] at h) (fun z_164 H locs hp_165 hG hS o_166 => ?_)
                  have at_119 := va_at.keptC at_119 o_166 k_a0 rfl
                  have at_160 := va_at.keptC at_160 o_166 h_112 rfl
                  refine lv_lsub hx hb dX9_swapped_137 ?_
                  refine lv_topl (fun z_167 e_168 => ?_)
                  refine lv_lstore (lv' := [(7, .long z_167), (6, .int yh), (4, .long ys), (0, .ref a0), (1, .int a1), (2, .int a2), (3, .int a3)]) hx hb dX9_swapped_138 hl (by decide) rfl (fun ls hl => ?_)
                  refine lv_iload_n hx hb dX9_swapped_140 rfl (lv_at hl 6 rfl) ?_
                  refine lv_if_ne (tgt := 155) hx hb dX9_swapped_141 (by decide) (fun c_169 => ?_) (fun c_169 => ?_)
                  · skip
                    have c_169 : a3.toInt ≠ 0 := q_ne c_169
                    refine lv_lload hx hb dX9_swapped_155 (lv_at hl 2 rfl) ?_
                    refine lv_lload hx hb dX9_swapped_157 (lv_at hl 0 rfl) ?_
                    refine lv_pc (pc2 := 159) rfl ?_
                    refine lv_ladd hx hb dX9_swapped_159 ?_
                    refine lv_topl (fun z_170 e_171 => ?_)
                    refine lv_lstore (lv' := [(4, .long z_170), (7, .long z_167), (6, .int yh), (0, .ref a0), (1, .int a1), (2, .int a2), (3, .int a3)]) hx hb dX9_swapped_160 hl (by decide) rfl (fun ls hl => ?_)
                    obtain ⟨x_172, e_173⟩ : ∃ y : Int32, y = yh + Int32.ofInt 1 := ⟨_, rfl⟩
                    have i_x_172 : x_172.toInt = yh.toInt + 1 := by rw [e_173, show Int32.ofInt 1 = 1 by decide]; exact (q_add (by rw [show (1 : Int32).toInt = 1 by decide]; omega) (by rw [show (1 : Int32).toInt = 1 by decide]; omega)).trans (by rw [show (1 : Int32).toInt = 1 by decide])
                    refine lv_iinc (v := x_172) (lv' := [(6, .int x_172), (4, .long z_170), (7, .long z_167), (0, .ref a0), (1, .int a1), (2, .int a2), (3, .int a3)]) hx hb dX9_swapped_162 hl (k := 2) rfl e_173.symm (by decide) rfl (fun ls hl => ?_)
                    refine lv_goto (tgt := 77) hx hb dX9_swapped_165 (by decide) ?_
                    exfalso; omega
                  · skip
                    have c_169 : a3.toInt = 0 := q_eq c_169
                    refine lv_lload hx hb dX9_swapped_144 (lv_at hl 0 rfl) ?_
                    refine lv_lconst (v := 0) hx hb dX9_swapped_146 (by decide) ?_
                    refine W.lcmp hx hb dX9_swapped_147 ?_
                    refine lv_if_eq (tgt := 155) hx hb dX9_swapped_148 (by decide) (fun c_174 => ?_) (fun c_174 => ?_)
                    · skip
                      have c_174 : z_167.toInt = 0 := q_cmp_eq c_174
                      refine lv_pc (pc2 := 155) rfl ?_
                      refine lv_lload hx hb dX9_swapped_155 (lv_at hl 2 rfl) ?_
                      refine lv_lload hx hb dX9_swapped_157 (lv_at hl 0 rfl) ?_
                      refine lv_ladd hx hb dX9_swapped_159 ?_
                      refine lv_topl (fun z_175 e_176 => ?_)
                      refine lv_lstore (lv' := [(4, .long z_175), (7, .long z_167), (6, .int yh), (0, .ref a0), (1, .int a1), (2, .int a2), (3, .int a3)]) hx hb dX9_swapped_160 hl (by decide) rfl (fun ls hl => ?_)
                      obtain ⟨x_177, e_178⟩ : ∃ y : Int32, y = yh + Int32.ofInt 1 := ⟨_, rfl⟩
                      have i_x_177 : x_177.toInt = yh.toInt + 1 := by rw [e_178, show Int32.ofInt 1 = 1 by decide]; exact (q_add (by rw [show (1 : Int32).toInt = 1 by decide]; omega) (by rw [show (1 : Int32).toInt = 1 by decide]; omega)).trans (by rw [show (1 : Int32).toInt = 1 by decide])
                      refine lv_iinc (v := x_177) (lv' := [(6, .int x_177), (4, .long z_175), (7, .long z_167), (0, .ref a0), (1, .int a1), (2, .int a2), (3, .int a3)]) hx hb dX9_swapped_162 hl (k := 2) rfl e_178.symm (by decide) rfl (fun ls hl => ?_)
                      refine lv_goto (tgt := 77) hx hb dX9_swapped_165 (by decide) ?_
                      exfalso; omega
                    · skip
                      have c_174 : z_167.toInt ≠ 0 := q_cmp_ne c_174
                      refine lv_iload hx hb dX9_swapped_151 (lv_at hl 1 rfl) ?_
                      refine lv_i2l (v := yh.toInt64) hx hb dX9_swapped_153 rfl ?_
                      refine lv_pc (pc2 := 154) rfl ?_
                      exact ty_lret hx hb hr hlk (hG.weak (fun _ _ => gF_mono (by omega))) hS True.intro dX9_swapped_154
              | succ k ih =>
                intro yh ys g H locs ls hk v0 v1 v2 hG hS hl
                refine (hWW _ _ _).mpr ?_
                refine lv_iload hx hb dX9_swapped_77 (lv_at hl 0 rfl) ?_
                refine lv_iload_n hx hb dX9_swapped_79 rfl (lv_at hl 4 rfl) ?_
                refine lv_icmp_ge (tgt := 168) hx hb dX9_swapped_80 (by decide) (fun c_179 => ?_) (fun c_179 => ?_)
                · skip
                  have c_179 : a2.toInt ≤ yh.toInt := q_le c_179
                  exact (hWW _ _ _).mp (kx yh ys g H locs ls (by omega) (by omega) (by omega) hG hS (lv_sub hl [0, 1, 2, 3, 4, 5] rfl))
                · skip
                  have c_179 : yh.toInt < a2.toInt := q_nle c_179
                  refine lv_aload_n hx hb dX9_swapped_83 rfl (lv_at hl 2 rfl) ?_
                  obtain ⟨r_180, r_182, r_184, r_186, v_188, v_189, r_190, r_192, r_194, r_196, r_198, r_200, r_202, v_204, r_206, r_208, r_210, r_212, at_214, h_181, h_183, h_185, h_187, h_191, h_193, h_195, h_197, h_199, h_201, h_203, h_205, h_207, h_209, h_211, h_213⟩ := gF_o1 hG k_a0
                  refine va_get (D := D) (ci := 8) (v := .ref r_198) (C := RX9) (T := TX9) (N := 18) hx hb hts in9 hown hK (va_one at_214) 0 rfl rfl 10 (by decide) (hts (.fieldLink RX9 57 "RiverModel" "trial" "LRiverModel$Course;") (List.mem_of_getElem? (i := 12) rfl)) (fun _ h9 => h9) rfl dX9_swapped_84 ?_
                  refine lv_aload_n hx hb dX9_swapped_87 rfl (lv_at hl 2 rfl) ?_
                  refine va_get (D := D) (ci := 8) (v := .ref r_182) (C := RX9) (T := TX9) (N := 18) hx hb hts in9 hown hK (va_one at_214) 0 rfl rfl 1 (by decide) (hts (.fieldLink RX9 19 "RiverModel" "model" "LRiverModel$Model;") (List.mem_of_getElem? (i := 13) rfl)) (fun _ h9 => h9) rfl dX9_swapped_88 ?_
                  refine lv_pc (pc2 := 91) rfl ?_
                  refine lv_aload_n hx hb dX9_swapped_91 rfl (lv_at hl 2 rfl) ?_
                  refine va_get (D := D) (ci := 8) (v := .ref r_190) (C := RX9) (T := TX9) (N := 18) hx hb hts in9 hown hK (va_one at_214) 0 rfl rfl 6 (by decide) (hts (.fieldLink RX9 39 "RiverModel" "skyA" "LRiverModel$Sky;") (List.mem_of_getElem? (i := 21) rfl)) (fun _ h9 => h9) rfl dX9_swapped_92 ?_
                  obtain ⟨r_215, r_217, r_219, r_221, v_223, v_224, v_225, v_226, at_228, h_216, h_218, h_220, h_222, h_227⟩ := gF_o5 hG h_199
                  refine ty_callv ((W.runV (As := [.ref r_182, .ref r_190]) (rest := []) ⟨hx, hb, hml, hown, hts⟩ (s_X0_goHourBy l D t cI cL cC gC gE g gW gA r_198 r_182 r_190 (by omega) h_199 h_183 h_191) (cwV 2 hts gu_X9_swapped_X0_goHourBy_151 rfl rfl rfl (by decide +kernel) ⟨Nat.le_of_ble_eq_true rfl, Nat.le_of_ble_eq_true rfl⟩) (tP_V hG hE at_228 rfl) rfl rfl hl.1 rfl (lv_room (Nat.le_of_ble_eq_true rfl)) dX9_swapped_95 ⟨Nat.le_of_ble_eq_true rfl, Nat.le_of_ble_eq_true rfl⟩)) hS (fun _ h => h) (fun H locs hp_230 hG hS o_231 => ?_)
                  have at_214 := va_at.keptC at_214 o_231 k_a0 rfl
                  refine lv_aload_n hx hb dX9_swapped_98 rfl (lv_at hl 2 rfl) ?_
                  refine va_get (D := D) (ci := 8) (v := .ref r_200) (C := RX9) (T := TX9) (N := 18) hx hb hts in9 hown hK (va_one at_214) 0 rfl rfl 11 (by decide) (hts (.fieldLink RX9 60 "RiverModel" "second" "LRiverModel$Course;") (List.mem_of_getElem? (i := 18) rfl)) (fun _ h9 => h9) rfl dX9_swapped_99 ?_
                  refine lv_aload_n hx hb dX9_swapped_102 rfl (lv_at hl 2 rfl) ?_
                  refine va_get (D := D) (ci := 8) (v := .ref r_186) (C := RX9) (T := TX9) (N := 18) hx hb hts in9 hown hK (va_one at_214) 0 rfl rfl 3 (by decide) (hts (.fieldLink RX9 26 "RiverModel" "other" "LRiverModel$Model;") (List.mem_of_getElem? (i := 19) rfl)) (fun _ h9 => h9) rfl dX9_swapped_103 ?_
                  refine lv_aload_n hx hb dX9_swapped_106 rfl (lv_at hl 2 rfl) ?_
                  refine lv_pc (pc2 := 107) rfl ?_
                  refine va_get (D := D) (ci := 8) (v := .ref r_190) (C := RX9) (T := TX9) (N := 18) hx hb hts in9 hown hK (va_one at_214) 0 rfl rfl 6 (by decide) (hts (.fieldLink RX9 39 "RiverModel" "skyA" "LRiverModel$Sky;") (List.mem_of_getElem? (i := 21) rfl)) (fun _ h9 => h9) rfl dX9_swapped_107 ?_
                  obtain ⟨r_232, r_234, r_236, r_238, v_240, v_241, v_242, v_243, at_245, h_233, h_235, h_237, h_239, h_244⟩ := gF_o5 hG h_201
                  refine ty_callv ((W.runV (As := [.ref r_186, .ref r_190]) (rest := []) ⟨hx, hb, hml, hown, hts⟩ (s_X0_goHourBy l D t cI cL cC gC gE (g + 1) gW gA r_200 r_186 r_190 (by omega) h_201 h_187 h_191) (cwV 2 hts gu_X9_swapped_X0_goHourBy_151 rfl rfl rfl (by decide +kernel) ⟨Nat.le_of_ble_eq_true rfl, Nat.le_of_ble_eq_true rfl⟩) (tP_V hG hE at_245 rfl) rfl rfl hl.1 rfl (lv_room (Nat.le_of_ble_eq_true rfl)) dX9_swapped_110 ⟨Nat.le_of_ble_eq_true rfl, Nat.le_of_ble_eq_true rfl⟩)) hS (fun _ h => h) (fun H locs hp_247 hG hS o_248 => ?_)
                  have at_214 := va_at.keptC at_214 o_248 k_a0 rfl
                  refine lv_aload_n hx hb dX9_swapped_113 rfl (lv_at hl 2 rfl) ?_
                  refine va_get (D := D) (ci := 8) (v := .ref r_206) (C := RX9) (T := TX9) (N := 18) hx hb hts in9 hown hK (va_one at_214) 0 rfl rfl 14 (by decide) (hts (.fieldLink RX9 74 "RiverModel" "gauges" "LRiverModel$Gauges;") (List.mem_of_getElem? (i := 25) rfl)) (fun _ h9 => h9) rfl dX9_swapped_114 ?_
                  refine lv_aload_n hx hb dX9_swapped_117 rfl (lv_at hl 2 rfl) ?_
                  refine va_get (D := D) (ci := 8) (v := .ref r_200) (C := RX9) (T := TX9) (N := 18) hx hb hts in9 hown hK (va_one at_214) 0 rfl rfl 11 (by decide) (hts (.fieldLink RX9 60 "RiverModel" "second" "LRiverModel$Course;") (List.mem_of_getElem? (i := 18) rfl)) (fun _ h9 => h9) rfl dX9_swapped_118 ?_
                  refine lv_iload_n hx hb dX9_swapped_121 rfl (lv_at hl 3 rfl) ?_
                  obtain ⟨r_249, r_251, r_253, at_255, h_250, h_252, h_254⟩ := gF_o6 hG h_207
                  refine ty_calll ((W.runV (As := [.ref r_200, .int a1]) (rest := []) ⟨hx, hb, hml, hown, hts⟩ (s_X1_reading l D t cI cL cC gC gE (g + 2) gW gA r_206 r_200 a1 h_207 h_201) (cwV 2 hts gu_X9_swapped_X1_reading_215 rfl rfl rfl (by decide +kernel) ⟨Nat.le_of_ble_eq_true rfl, Nat.le_of_ble_eq_true rfl⟩) (tP_V hG hE at_255 rfl) rfl rfl hl.1 rfl (lv_room (Nat.le_of_ble_eq_true rfl)) dX9_swapped_122 ⟨Nat.le_of_ble_eq_true rfl, Nat.le_of_ble_eq_true rfl⟩)) hS (fun k h => by simp [wr0] at h) (fun z_256 H locs hp_257 hG hS o_258 => ?_)
                  have at_214 := va_at.keptC at_214 o_258 k_a0 rfl
                  have at_255 := va_at.keptC at_255 o_258 h_207 rfl
                  refine lv_pc (pc2 := 125) rfl ?_
                  refine lv_aload_n hx hb dX9_swapped_125 rfl (lv_at hl 2 rfl) ?_
                  refine va_get (D := D) (ci := 8) (v := .ref r_206) (C := RX9) (T := TX9) (N := 18) hx hb hts in9 hown hK (va_one at_214) 0 rfl rfl 14 (by decide) (hts (.fieldLink RX9 74 "RiverModel" "gauges" "LRiverModel$Gauges;") (List.mem_of_getElem? (i := 25) rfl)) (fun _ h9 => h9) rfl dX9_swapped_126 ?_
                  refine lv_aload_n hx hb dX9_swapped_129 rfl (lv_at hl 2 rfl) ?_
                  refine va_get (D := D) (ci := 8) (v := .ref r_198) (C := RX9) (T := TX9) (N := 18) hx hb hts in9 hown hK (va_one at_214) 0 rfl rfl 10 (by decide) (hts (.fieldLink RX9 57 "RiverModel" "trial" "LRiverModel$Course;") (List.mem_of_getElem? (i := 12) rfl)) (fun _ h9 => h9) rfl dX9_swapped_130 ?_
                  refine lv_iload_n hx hb dX9_swapped_133 rfl (lv_at hl 3 rfl) ?_
                  refine ty_calll ((W.runV (As := [.ref r_198, .int a1]) (rest := [.long z_256]) ⟨hx, hb, hml, hown, hts⟩ (s_X1_reading l D t cI cL cC gC gE (g + 2) gW gA r_206 r_198 a1 h_207 h_199) (cwV 2 hts gu_X9_swapped_X1_reading_215 rfl rfl rfl (by decide +kernel) ⟨Nat.le_of_ble_eq_true rfl, Nat.le_of_ble_eq_true rfl⟩) (tP_V hG hE at_255 rfl) rfl rfl hl.1 rfl (lv_room (Nat.le_of_ble_eq_true rfl)) dX9_swapped_134 ⟨Nat.le_of_ble_eq_true rfl, Nat.le_of_ble_eq_true rfl⟩)) hS (fun k h => by simp [wr0] at h) (fun z_259 H locs hp_260 hG hS o_261 => ?_)
                  have at_214 := va_at.keptC at_214 o_261 k_a0 rfl
                  have at_255 := va_at.keptC at_255 o_261 h_207 rfl
                  refine lv_lsub hx hb dX9_swapped_137 ?_
                  refine lv_topl (fun z_262 e_263 => ?_)
                  refine lv_lstore (lv' := [(7, .long z_262), (6, .int yh), (4, .long ys), (0, .ref a0), (1, .int a1), (2, .int a2), (3, .int a3)]) hx hb dX9_swapped_138 hl (by decide) rfl (fun ls hl => ?_)
                  refine lv_pc (pc2 := 140) rfl ?_
                  refine lv_iload_n hx hb dX9_swapped_140 rfl (lv_at hl 6 rfl) ?_
                  refine lv_if_ne (tgt := 155) hx hb dX9_swapped_141 (by decide) (fun c_264 => ?_) (fun c_264 => ?_)
                  · skip
                    have c_264 : a3.toInt ≠ 0 := q_ne c_264
                    refine lv_lload hx hb dX9_swapped_155 (lv_at hl 2 rfl) ?_
                    refine lv_lload hx hb dX9_swapped_157 (lv_at hl 0 rfl) ?_
                    refine lv_ladd hx hb dX9_swapped_159 ?_
                    refine lv_topl (fun z_265 e_266 => ?_)
                    refine lv_lstore (lv' := [(4, .long z_265), (7, .long z_262), (6, .int yh), (0, .ref a0), (1, .int a1), (2, .int a2), (3, .int a3)]) hx hb dX9_swapped_160 hl (by decide) rfl (fun ls hl => ?_)
                    obtain ⟨x_267, e_268⟩ : ∃ y : Int32, y = yh + Int32.ofInt 1 := ⟨_, rfl⟩
                    have i_x_267 : x_267.toInt = yh.toInt + 1 := by rw [e_268, show Int32.ofInt 1 = 1 by decide]; exact (q_add (by rw [show (1 : Int32).toInt = 1 by decide]; omega) (by rw [show (1 : Int32).toInt = 1 by decide]; omega)).trans (by rw [show (1 : Int32).toInt = 1 by decide])
                    refine lv_iinc (v := x_267) (lv' := [(6, .int x_267), (4, .long z_265), (7, .long z_262), (0, .ref a0), (1, .int a1), (2, .int a2), (3, .int a3)]) hx hb dX9_swapped_162 hl (k := 2) rfl e_268.symm (by decide) rfl (fun ls hl => ?_)
                    refine lv_goto (tgt := 77) hx hb dX9_swapped_165 (by decide) ?_
                    exact (hWW _ _ _).mp (ih x_267 z_265 (g + 2) H locs ls (by omega) (by omega) (by omega) (by omega) hG hS (lv_sub hl [0, 1, 3, 4, 5, 6] rfl))
                  · skip
                    have c_264 : a3.toInt = 0 := q_eq c_264
                    refine lv_pc (pc2 := 144) rfl ?_
                    refine lv_lload hx hb dX9_swapped_144 (lv_at hl 0 rfl) ?_
                    refine lv_lconst (v := 0) hx hb dX9_swapped_146 (by decide) ?_
                    refine W.lcmp hx hb dX9_swapped_147 ?_
                    refine lv_if_eq (tgt := 155) hx hb dX9_swapped_148 (by decide) (fun c_269 => ?_) (fun c_269 => ?_)
                    · skip
                      have c_269 : z_262.toInt = 0 := q_cmp_eq c_269
                      refine lv_lload hx hb dX9_swapped_155 (lv_at hl 2 rfl) ?_
                      refine lv_lload hx hb dX9_swapped_157 (lv_at hl 0 rfl) ?_
                      refine lv_ladd hx hb dX9_swapped_159 ?_
                      refine lv_topl (fun z_270 e_271 => ?_)
                      refine lv_lstore (lv' := [(4, .long z_270), (7, .long z_262), (6, .int yh), (0, .ref a0), (1, .int a1), (2, .int a2), (3, .int a3)]) hx hb dX9_swapped_160 hl (by decide) rfl (fun ls hl => ?_)
                      refine lv_pc (pc2 := 162) rfl ?_
                      obtain ⟨x_272, e_273⟩ : ∃ y : Int32, y = yh + Int32.ofInt 1 := ⟨_, rfl⟩
                      have i_x_272 : x_272.toInt = yh.toInt + 1 := by rw [e_273, show Int32.ofInt 1 = 1 by decide]; exact (q_add (by rw [show (1 : Int32).toInt = 1 by decide]; omega) (by rw [show (1 : Int32).toInt = 1 by decide]; omega)).trans (by rw [show (1 : Int32).toInt = 1 by decide])
                      refine lv_iinc (v := x_272) (lv' := [(6, .int x_272), (4, .long z_270), (7, .long z_262), (0, .ref a0), (1, .int a1), (2, .int a2), (3, .int a3)]) hx hb dX9_swapped_162 hl (k := 2) rfl e_273.symm (by decide) rfl (fun ls hl => ?_)
                      refine lv_goto (tgt := 77) hx hb dX9_swapped_165 (by decide) ?_
                      exact (hWW _ _ _).mp (ih x_272 z_270 (g + 2) H locs ls (by omega) (by omega) (by omega) (by omega) hG hS (lv_sub hl [0, 1, 3, 4, 5, 6] rfl))
                    · skip
                      have c_269 : z_262.toInt ≠ 0 := q_cmp_ne c_269
                      refine lv_iload hx hb dX9_swapped_151 (lv_at hl 1 rfl) ?_
                      refine lv_i2l (v := yh.toInt64) hx hb dX9_swapped_153 rfl ?_
                      exact ty_lret hx hb hr hlk (hG.weak (fun _ _ => gF_mono (by omega))) hS True.intro dX9_swapped_154
            have hz_yh : (0 : Int32).toInt = 0 := by decide
            exact loop (96 - 0 : Int).toNat 0 0 G H locs ls (by omega) (by omega) (by omega) (by omega) hG hS (lv_sub hl [0, 1, 2, 3, 4, 5] rfl)
          · skip
            refine lv_if_eq (tgt := 49) hx hb dX9_swapped_42 (by decide) (fun q => absurd q (by decide)) (fun _ => ?_)
            refine lv_ldc2 hx hb hown (hts (.constantLong RX9 163 (-2)) (List.mem_of_getElem? (i := 8) rfl)) dX9_swapped_45 ?_
            exact ty_lret hx hb hr hlk (hG.weak (fun _ _ => gF_mono (by omega))) hS True.intro dX9_swapped_48

def uX9_startB : List Cond := .code yX9_startB cX9_startB 4 (some .int) :: ([.methodLink RX9 155 yX9_isNoStore, .static yX9_isNoStore, .initialized RX9, .constant RX9 231 (1000000), .methodLink RX9 99 yX9_isOutside, .static yX9_isOutside, .methodLink RX9 160 yX9_lacksStore, .instanceMethod yX9_lacksStore, .selects RX9 yX9_lacksStore yX9_lacksStore, .fieldLink RX9 46 "RiverModel" "startsB" "[I", .code yX9_isNoStore cX9_isNoStore 1 (some .boolean), .code yX9_isOutside cX9_isOutside 3 (some .boolean), .code yX9_lacksStore cX9_lacksStore 2 (some .boolean), .fieldLink RX9 29 "RiverModel" "isBuilt" "Z", .fieldLink RX9 19 "RiverModel" "model" "LRiverModel$Model;", .methodLink RX9 343 yX4_hasStore, .instanceMethod yX4_hasStore, .selects RX4 yX4_hasStore yX4_hasStore, .initialized RX4, .code yX4_hasStore cX4_hasStore 2 (some .boolean), .fieldLink RX4 15 "RiverModel$Model" "storeItems" "[I"] ++ wsX90 ++ wsX40)
set_option maxRecDepth 20000 in
theorem gu_X9_startB_X9_isNoStore_155 : GoodIn uX9_startB (va_wsS RX9 155 yX9_isNoStore uX9_isNoStore) := goodIn_r _ [1, 2, 3, 11] rfl (by decide +kernel)
set_option maxRecDepth 20000 in
theorem gu_X9_startB_X9_isOutside_99 : GoodIn uX9_startB (va_wsS RX9 99 yX9_isOutside uX9_isOutside) := goodIn_r _ [5, 6, 3, 12] rfl (by decide +kernel)
set_option maxRecDepth 20000 in
theorem gu_X9_startB_X9_lacksStore_160 : GoodIn uX9_startB (wsV RX9 160 RX9 yX9_lacksStore uX9_lacksStore) := goodIn_r _ [7, 8, 9, 3, 13, 14, 15, 16, 17, 18, 19, 20, 21, 22, 23, 24, 25, 26, 27, 28, 29, 30, 31, 32, 33, 34, 35, 36, 37, 38, 39, 40, 41, 42, 43, 44, 45] rfl (by decide +kernel)
set_option maxHeartbeats 4000000 in
set_option maxRecDepth 100000 in
theorem s_X9_startB (l : Launch) (D : va_G) (t : Nat → Nat) (cI cL cC : ClassId) (gC : Int32) (gE : Int32) (G : Nat) (gW : Nat → Int32) (gA : Nat → Int32) (a0 : Nat) (a1 : Int32) (a2 : Int32) (k_a0 : t a0 = 1) : tM l yX9_startB uX9_startB 2 42 D (gF cI cL cC gC gE G gW gA) (gF cI cL cC gC gE G gW gA) t cI cL cC [.ref a0, .int a1, .int a2] wrSt (pI (fun r => True)) := by
  refine tM.ofW (cc := cX9_startB) (maxL := 4) (ret := (some .int)) (by decide) rfl (Nat.le_of_ble_eq_true rfl) ?_
  intro p e s m below meth c hx hb hr hml hown hts hlk H locs hG hK hE hS ls hl
  have hl : lv_has ls 4 [(0, .ref a0), (1, .int a1), (2, .int a2)] := hl
  have in9 : ∀ w ∈ wsX90, w ∈ uX9_startB := fun w h => List.mem_cons_of_mem _ (List.mem_append_left _ (List.mem_append_right _ h))
  refine lv_iload_n hx hb dX9_startB_0 rfl (lv_at hl 1 rfl) ?_
  refine ty_calli ((W.runS (As := [.int a1]) (rest := []) ⟨hx, hb, hml, hown, hts⟩ (s_X9_isNoStore l D t cI cL cC gC gE G gW gA a1 ) (va_cwS 1 hts gu_X9_startB_X9_isNoStore_155 rfl rfl rfl (by decide +kernel) ⟨Nat.le_of_ble_eq_true rfl, Nat.le_of_ble_eq_true rfl⟩) (tP_S hG hE) rfl rfl hl.1 rfl (lv_room (Nat.le_of_ble_eq_true rfl)) dX9_startB_1 ⟨Nat.le_of_ble_eq_true rfl, Nat.le_of_ble_eq_true rfl⟩)) hS (fun k h => by simp [wr0] at h) (fun r_1 H locs hp_2 hG hS o_3 => ?_)
  rcases hp_2 with ⟨rfl, hc_253⟩ | ⟨rfl, hc_254, hc_255⟩
  · skip
    refine lv_if_ne (tgt := 17) hx hb dX9_startB_4 (by decide) (fun _ => ?_) (fun q => absurd q (by decide))
    refine lv_iconst (v := (-1)) hx hb dX9_startB_17 (by decide) ?_
    exact ty_iret hx hb hr hlk hG hS True.intro dX9_startB_18
  · skip
    refine lv_if_ne (tgt := 17) hx hb dX9_startB_4 (by decide) (fun q => absurd rfl q) (fun _ => ?_)
    refine lv_iload_n hx hb dX9_startB_7 rfl (lv_at hl 2 rfl) ?_
    refine lv_pc (pc2 := 8) rfl ?_
    refine lv_iconst (v := 0) hx hb dX9_startB_8 (by decide) ?_
    refine lv_ldc hx hb hown (hts (.constant RX9 231 (1000000)) (List.mem_of_getElem? (i := 4) rfl)) dX9_startB_9 ?_
    refine ty_calli ((W.runS (As := [.int a2, .int 0, .int 1000000]) (rest := []) ⟨hx, hb, hml, hown, hts⟩ (s_X9_isOutside l D t cI cL cC gC gE G gW gA a2 0 1000000 0 1000000 (by decide) (by decide) ) (va_cwS 3 hts gu_X9_startB_X9_isOutside_99 rfl rfl rfl (by decide +kernel) ⟨Nat.le_of_ble_eq_true rfl, Nat.le_of_ble_eq_true rfl⟩) (tP_S hG hE) rfl rfl hl.1 rfl (lv_room (Nat.le_of_ble_eq_true rfl)) dX9_startB_11 ⟨Nat.le_of_ble_eq_true rfl, Nat.le_of_ble_eq_true rfl⟩)) hS (fun k h => by simp [wr0] at h) (fun r_4 H locs hp_5 hG hS o_6 => ?_)
    rcases hp_5 with ⟨rfl, hc_256⟩ | ⟨rfl, hc_257, hc_258⟩
    · skip
      refine lv_if_eq (tgt := 19) hx hb dX9_startB_14 (by decide) (fun q => absurd q (by decide)) (fun _ => ?_)
      refine lv_iconst (v := (-1)) hx hb dX9_startB_17 (by decide) ?_
      exact ty_iret hx hb hr hlk hG hS True.intro dX9_startB_18
    · skip
      refine lv_if_eq (tgt := 19) hx hb dX9_startB_14 (by decide) (fun _ => ?_) (fun q => absurd (by decide) q)
      refine lv_aload_n hx hb dX9_startB_19 rfl (lv_at hl 0 rfl) ?_
      refine lv_pc (pc2 := 20) rfl ?_
      refine lv_iload_n hx hb dX9_startB_20 rfl (lv_at hl 1 rfl) ?_
      obtain ⟨r_7, r_9, r_11, r_13, v_15, v_16, r_17, r_19, r_21, r_23, r_25, r_27, r_29, v_31, r_33, r_35, r_37, r_39, at_41, h_8, h_10, h_12, h_14, h_18, h_20, h_22, h_24, h_26, h_28, h_30, h_32, h_34, h_36, h_38, h_40⟩ := gF_o1 hG k_a0
      refine ty_calli ((W.runV (As := [.int a1]) (rest := []) ⟨hx, hb, hml, hown, hts⟩ (s_X9_lacksStore l D t cI cL cC gC gE G gW gA a0 a1 k_a0) (cwV 1 hts gu_X9_startB_X9_lacksStore_160 rfl rfl rfl (by decide +kernel) ⟨Nat.le_of_ble_eq_true rfl, Nat.le_of_ble_eq_true rfl⟩) (tP_V hG hE at_41 rfl) rfl rfl hl.1 rfl (lv_room (Nat.le_of_ble_eq_true rfl)) dX9_startB_21 ⟨Nat.le_of_ble_eq_true rfl, Nat.le_of_ble_eq_true rfl⟩)) hS (fun k h => by simp [wr0] at h) (fun r_42 H locs hp_43 hG hS o_44 => ?_)
      have at_41 := va_at.keptC at_41 o_44 k_a0 rfl
      rcases hp_43 with rfl | rfl
      · skip
        refine lv_if_eq (tgt := 30) hx hb dX9_startB_24 (by decide) (fun _ => ?_) (fun q => absurd (by decide) q)
        refine lv_aload_n hx hb dX9_startB_30 rfl (lv_at hl 0 rfl) ?_
        refine va_get (D := D) (ci := 8) (v := .ref r_21) (C := RX9) (T := TX9) (N := 18) hx hb hts in9 hown hK (va_one at_41) 0 rfl rfl 8 (by decide) (hts (.fieldLink RX9 46 "RiverModel" "startsB" "[I") (List.mem_of_getElem? (i := 10) rfl)) (fun _ h9 => h9) rfl dX9_startB_31 ?_
        refine lv_iload_n hx hb dX9_startB_34 rfl (lv_at hl 1 rfl) ?_
        obtain ⟨f_45, at_46⟩ := gF_o35 hG h_22
        have b_47 : vp_in a1 16 := (q_in (by omega) (by omega))
        refine va_iald hx hb hK (va_one at_46) 0 0 rfl rfl b_47 dX9_startB_35 ?_
        refine lv_topi (fun x_48 e_49 => ?_)
        refine lv_istore_n (lv' := [(3, .int x_48), (0, .ref a0), (1, .int a1), (2, .int a2)]) hx hb dX9_startB_36 rfl hl (by decide) rfl (fun ls hl => ?_)
        refine lv_pc (pc2 := 37) rfl ?_
        refine lv_aload_n hx hb dX9_startB_37 rfl (lv_at hl 1 rfl) ?_
        refine va_get (D := D) (ci := 8) (v := .ref r_21) (C := RX9) (T := TX9) (N := 18) hx hb hts in9 hown hK (va_one at_41) 0 rfl rfl 8 (by decide) (hts (.fieldLink RX9 46 "RiverModel" "startsB" "[I") (List.mem_of_getElem? (i := 10) rfl)) (fun _ h9 => h9) rfl dX9_startB_38 ?_
        refine lv_iload_n hx hb dX9_startB_41 rfl (lv_at hl 2 rfl) ?_
        refine lv_iload_n hx hb dX9_startB_42 rfl (lv_at hl 3 rfl) ?_
        have b_50 : vp_in a1 16 := (q_in (by omega) (by omega))
        refine ty_iast (F2 := (gF cI cL cC gC gE G gW gA)) hx hb hK hG hS 0 at_46 (by rw [h_22]; rfl) rfl b_50 (by rw [h_22]; exact ⟨_, rfl⟩) tFF dX9_startB_43 (fun H locs hG hS at_51 o_52 => ?_)
        have at_41 := va_at.keptK at_41 o_52 h_22 k_a0 rfl
        refine lv_iload_n hx hb dX9_startB_44 rfl (lv_at hl 0 rfl) ?_
        exact ty_iret hx hb hr hlk hG hS True.intro dX9_startB_45
      · skip
        refine lv_if_eq (tgt := 30) hx hb dX9_startB_24 (by decide) (fun q => absurd q (by decide)) (fun _ => ?_)
        refine lv_pc (pc2 := 27) rfl ?_
        refine lv_bipush (v := (-2)) hx hb dX9_startB_27 (by decide) ?_
        exact ty_iret hx hb hr hlk hG hS True.intro dX9_startB_29

def uX9_blame : List Cond := .code yX9_blame cX9_blame 4 (some .long) :: ([.methodLink RX9 205 yX9_isNoGauge, .static yX9_isNoGauge, .initialized RX9, .constantLong RX9 323 (-1000000000000000000), .methodLink RX9 99 yX9_isOutside, .static yX9_isOutside, .methodLink RX9 212 yX9_lacksGauge, .instanceMethod yX9_lacksGauge, .selects RX9 yX9_lacksGauge yX9_lacksGauge, .methodLink RX9 327 yX9_changedReading, .instanceMethod yX9_changedReading, .selects RX9 yX9_changedReading yX9_changedReading, .constantLong RX9 325 (-1000000000000000001), .code yX9_isNoGauge cX9_isNoGauge 1 (some .boolean), .code yX9_isOutside cX9_isOutside 3 (some .boolean), .code yX9_lacksGauge cX9_lacksGauge 2 (some .boolean), .fieldLink RX9 29 "RiverModel" "isBuilt" "Z", .fieldLink RX9 74 "RiverModel" "gauges" "LRiverModel$Gauges;", .methodLink RX9 346 yX1_isSet, .instanceMethod yX1_isSet, .selects RX1 yX1_isSet yX1_isSet, .initialized RX1, .code yX1_isSet cX1_isSet 2 (some .boolean), .fieldLink RX1 9 "RiverModel$Gauges" "whats" "[I", .code yX9_changedReading cX9_changedReading 7 (some .long), .fieldLink RX9 19 "RiverModel" "model" "LRiverModel$Model;", .fieldLink RX9 39 "RiverModel" "skyA" "LRiverModel$Sky;", .fieldLink RX9 57 "RiverModel" "trial" "LRiverModel$Course;", .methodLink RX9 147 yX0_begin, .instanceMethod yX0_begin, .selects RX0 yX0_begin yX0_begin, .initialized RX0, .methodLink RX9 215 yX1_reading, .instanceMethod yX1_reading, .selects RX1 yX1_reading yX1_reading, .methodLink RX9 151 yX0_goHourBy, .instanceMethod yX0_goHourBy, .selects RX0 yX0_goHourBy yX0_goHourBy, .fieldLink RX9 46 "RiverModel" "startsB" "[I", .methodLink RX9 380 yX0_startFrom, .instanceMethod yX0_startFrom, .selects RX0 yX0_startFrom yX0_startFrom, .fieldLink RX9 43 "RiverModel" "skyB" "LRiverModel$Sky;", .fieldLink RX9 33 "RiverModel" "isOtherLaid" "Z", .fieldLink RX9 26 "RiverModel" "other" "LRiverModel$Model;", .code yX0_begin cX0_begin 3 none, .fieldLink RX0 15 "RiverModel$Course" "moved" "[J", .methodLink RX0 45 yJ7_fill_d0a16, .static yJ7_fill_d0a16, .initialized RJ7, .fieldLink RX0 18 "RiverModel$Course" "openings" "[I", .methodLink RX0 51 yJ7_fill_53178, .static yJ7_fill_53178, .fieldLink RX0 22 "RiverModel$Course" "due" "[J", .fieldLink RX0 25 "RiverModel$Course" "rained" "J", .fieldLink RX0 29 "RiverModel$Course" "air" "J", .fieldLink RX0 32 "RiverModel$Course" "sea" "J", .fieldLink RX0 35 "RiverModel$Course" "hours" "I", .fieldLink RX0 9 "RiverModel$Course" "held" "[J", .methodLink RX0 39 yX4_startOf, .instanceMethod yX4_startOf, .selects RX4 yX4_startOf yX4_startOf, .initialized RX4, .code yJ7_fill_d0a16 cJ7_fill_d0a16 5 none, .code yJ7_fill_53178 cJ7_fill_53178 4 none, .code yX4_startOf cX4_startOf 2 (some .int), .methodLink RX4 66 yX4_hasStore, .instanceMethod yX4_hasStore, .selects RX4 yX4_hasStore yX4_hasStore, .fieldLink RX4 15 "RiverModel$Model" "storeItems" "[I", .methodLink RX4 73 yX4_cell, .instanceMethod yX4_cell, .selects RX4 yX4_cell yX4_cell, .code yX4_hasStore cX4_hasStore 2 (some .boolean), .code yX4_cell cX4_cell 3 (some .int), .fieldLink RX4 9 "RiverModel$Model" "cells" "[I", .code yX1_reading cX1_reading 4 (some .long), .methodLink RX1 35 yX1_isSet, .fieldLink RX1 15 "RiverModel$Gauges" "places" "[I", .static yX9_isNoStore, .fieldLink RX1 50 "RiverModel$Course" "held" "[J", .static yX9_isNoItem, .fieldLink RX1 41 "RiverModel$Course" "moved" "[J", .code yX9_isNoStore cX9_isNoStore 1 (some .boolean), .code yX9_isNoItem cX9_isNoItem 1 (some .boolean), .code yX0_goHourBy cX0_goHourBy 3 none, .methodLink RX0 60 yX6_rainIn, .instanceMethod yX6_rainIn, .selects RX6 yX6_rainIn yX6_rainIn, .initialized RX6, .methodLink RX0 65 yX6_tempIn, .instanceMethod yX6_tempIn, .selects RX6 yX6_tempIn yX6_tempIn, .methodLink RX0 68 yX0_goHour, .instanceMethod yX0_goHour, .selects RX0 yX0_goHour yX0_goHour, .code yX6_rainIn cX6_rainIn 2 (some .int), .fieldLink RX6 9 "RiverModel$Sky" "rains" "[I", .code yX6_tempIn cX6_tempIn 2 (some .int), .fieldLink RX6 15 "RiverModel$Sky" "temps" "[I", .code yX0_goHour cX0_goHour 7 none, .methodLink RX0 72 yX0_bringDue, .instanceMethod yX0_bringDue, .selects RX0 yX0_bringDue yX0_bringDue, .fieldLink RX0 75 "RiverModel$Model" "many" "I", .methodLink RX0 78 yX0_amountOf, .instanceMethod yX0_amountOf, .selects RX0 yX0_amountOf yX0_amountOf, .methodLink RX0 82 yX0_move, .instanceMethod yX0_move, .selects RX0 yX0_move yX0_move, .code yX0_bringDue cX0_bringDue 3 none, .code yX0_amountOf cX0_amountOf 11 (some .long), .methodLink RX0 86 yX4_cell, .methodLink RX0 110 yX4_gateOf, .instanceMethod yX4_gateOf, .selects RX4 yX4_gateOf yX4_gateOf, .methodLink RX0 113 yX0_openingOf, .instanceMethod yX0_openingOf, .selects RX0 yX0_openingOf yX0_openingOf, .methodLink RX0 107 Lib.MathLoose.min_long.x, .static Lib.MathLoose.min_long.x, .initialized "java/lang/Math", .code Lib.MathLoose.min_long.x Lib.MathLoose.min_long.code 4 (some .long), .methodLink RX0 94 yX0_leakOf, .static yX0_leakOf, .constantLong RX0 117 (100), .methodLink RX0 98 yX4_capacityOf, .instanceMethod yX4_capacityOf, .selects RX4 yX4_capacityOf yX4_capacityOf, .methodLink RX0 101 Lib.MathLoose.max_long.x, .static Lib.MathLoose.max_long.x, .code Lib.MathLoose.max_long.x Lib.MathLoose.max_long.code 4 (some .long), .constantLong RX0 119 (10), .code yX4_gateOf cX4_gateOf 3 (some .int), .fieldLink RX4 28 "RiverModel$Model" "gates" "I", .fieldLink RX4 18 "RiverModel$Model" "gateItems" "[I", .code yX0_openingOf cX0_openingOf 2 (some .long), .static yX9_isNoGate, .code yX9_isNoGate cX9_isNoGate 1 (some .boolean), .code yX0_leakOf cX0_leakOf 8 (some .long), .code yX4_capacityOf cX4_capacityOf 2 (some .int), .code yX0_move cX0_move 8 none, .methodLink RX0 124 yX0_send, .instanceMethod yX0_send, .selects RX0 yX0_send yX0_send, .code yX0_send cX0_send 5 none, .code yX0_startFrom cX0_startFrom 3 none] ++ wsX90 ++ wsX10 ++ wsX00 ++ wsX40 ++ wsX60)
set_option maxRecDepth 20000 in
theorem gu_X9_blame_X9_isNoGauge_205 : GoodIn uX9_blame (va_wsS RX9 205 yX9_isNoGauge uX9_isNoGauge) := goodIn_r _ [1, 2, 3, 14] rfl (by decide +kernel)
set_option maxRecDepth 20000 in
theorem gu_X9_blame_X9_isOutside_99 : GoodIn uX9_blame (va_wsS RX9 99 yX9_isOutside uX9_isOutside) := goodIn_r _ [5, 6, 3, 15] rfl (by decide +kernel)
set_option maxRecDepth 20000 in
theorem gu_X9_blame_X9_lacksGauge_212 : GoodIn uX9_blame (wsV RX9 212 RX9 yX9_lacksGauge uX9_lacksGauge) := goodIn_r _ [7, 8, 9, 3, 16, 17, 18, 19, 20, 21, 22, 23, 24, 149, 150, 151, 152, 153, 154, 155, 156, 157, 158, 159, 160, 161, 162, 163, 164, 165, 166, 167, 168, 169, 170] rfl (by decide +kernel)
set_option maxRecDepth 20000 in
theorem gu_X9_blame_X9_changedReading_327 : GoodIn uX9_blame (wsV RX9 327 RX9 yX9_changedReading uX9_changedReading) := goodIn_r _ [10, 11, 12, 3, 25, 26, 27, 28, 29, 30, 31, 32, 18, 33, 34, 35, 22, 36, 37, 38, 39, 40, 41, 42, 43, 44, 45, 46, 47, 48, 49, 50, 51, 52, 53, 54, 55, 56, 57, 58, 59, 60, 61, 62, 63, 64, 65, 66, 67, 68, 69, 70, 71, 72, 73, 74, 75, 76, 77, 78, 20, 21, 79, 24, 3, 80, 81, 82, 83, 23, 84, 85, 86, 87, 88, 89, 90, 91, 92, 93, 94, 95, 96, 97, 6, 98, 15, 99, 100, 101, 102, 103, 104, 105, 106, 107, 108, 109, 110, 111, 112, 113, 114, 115, 116, 117, 118, 119, 120, 121, 122, 123, 124, 125, 126, 127, 128, 129, 130, 131, 132, 133, 134, 135, 136, 137, 138, 139, 140, 141, 142, 143, 144, 145, 146, 147, 148, 149, 150, 151, 152, 153, 154, 155, 156, 157, 158, 159, 160, 161, 162, 163, 164, 165, 166, 171, 172, 173, 174, 175, 176, 177, 178, 179, 180, 181, 182, 183, 184, 167, 168, 169, 170, 185, 186] rfl (by decide +kernel)
set_option maxHeartbeats 4000000 in
set_option maxRecDepth 100000 in
theorem s_X9_blame (l : Launch) (D : va_G) (t : Nat → Nat) (cI cL cC : ClassId) (gC : Int32) (gE : Int32) (G : Nat) (gW : Nat → Int32) (gA : Nat → Int32) (a0 : Nat) (a1 : Int32) (a2 : Int32) (a3 : Int32) (hGb : G ≤ 100000000) (k_a0 : t a0 = 1) : tM l yX9_blame uX9_blame 6 147 D (gF cI cL cC gC gE G gW gA) (gF cI cL cC gC gE (G + 192) gW gA) t cI cL cC [.ref a0, .int a1, .int a2, .int a3] wrC (pL (fun r => True)) := by
  refine tM.ofW (cc := cX9_blame) (maxL := 4) (ret := (some .long)) (by decide) rfl (Nat.le_of_ble_eq_true rfl) ?_
  intro p e s m below meth c hx hb hr hml hown hts hlk H locs hG hK hE hS ls hl
  have hl : lv_has ls 4 [(0, .ref a0), (1, .int a1), (2, .int a2), (3, .int a3)] := hl
  skip
  refine lv_iload_n hx hb dX9_blame_0 rfl (lv_at hl 1 rfl) ?_
  refine ty_calli ((W.runS (As := [.int a1]) (rest := []) ⟨hx, hb, hml, hown, hts⟩ (s_X9_isNoGauge l D t cI cL cC gC gE G gW gA a1 ) (va_cwS 1 hts gu_X9_blame_X9_isNoGauge_205 rfl rfl rfl (by decide +kernel) ⟨Nat.le_of_ble_eq_true rfl, Nat.le_of_ble_eq_true rfl⟩) (tP_S hG hE) rfl rfl hl.1 rfl (lv_room (Nat.le_of_ble_eq_true rfl)) dX9_blame_1 ⟨Nat.le_of_ble_eq_true rfl, Nat.le_of_ble_eq_true rfl⟩)) hS (fun k h => by simp [wr0] at h) (fun r_1 H locs hp_2 hG hS o_3 => ?_)
  rcases hp_2 with ⟨rfl, hc_259⟩ | ⟨rfl, hc_260, hc_261⟩
  · skip
    refine lv_if_ne (tgt := 26) hx hb dX9_blame_4 (by decide) (fun _ => ?_) (fun q => absurd q (by decide))
    refine lv_ldc2 hx hb hown (hts (.constantLong RX9 323 (-1000000000000000000)) (List.mem_of_getElem? (i := 4) rfl)) dX9_blame_26 ?_
    exact ty_lret hx hb hr hlk (hG.weak (fun _ _ => gF_mono (by omega))) hS True.intro dX9_blame_29
  · skip
    refine lv_if_ne (tgt := 26) hx hb dX9_blame_4 (by decide) (fun q => absurd rfl q) (fun _ => ?_)
    refine lv_iload_n hx hb dX9_blame_7 rfl (lv_at hl 2 rfl) ?_
    refine lv_pc (pc2 := 8) rfl ?_
    refine lv_iconst (v := 0) hx hb dX9_blame_8 (by decide) ?_
    refine lv_bipush (v := 95) hx hb dX9_blame_9 (by decide) ?_
    refine ty_calli ((W.runS (As := [.int a2, .int 0, .int 95]) (rest := []) ⟨hx, hb, hml, hown, hts⟩ (s_X9_isOutside l D t cI cL cC gC gE G gW gA a2 0 95 0 95 (by decide) (by decide) ) (va_cwS 3 hts gu_X9_blame_X9_isOutside_99 rfl rfl rfl (by decide +kernel) ⟨Nat.le_of_ble_eq_true rfl, Nat.le_of_ble_eq_true rfl⟩) (tP_S hG hE) rfl rfl hl.1 rfl (lv_room (Nat.le_of_ble_eq_true rfl)) dX9_blame_11 ⟨Nat.le_of_ble_eq_true rfl, Nat.le_of_ble_eq_true rfl⟩)) hS (fun k h => by simp [wr0] at h) (fun r_4 H locs hp_5 hG hS o_6 => ?_)
    rcases hp_5 with ⟨rfl, hc_262⟩ | ⟨rfl, hc_263, hc_264⟩
    · skip
      refine lv_if_ne (tgt := 26) hx hb dX9_blame_14 (by decide) (fun _ => ?_) (fun q => absurd q (by decide))
      refine lv_ldc2 hx hb hown (hts (.constantLong RX9 323 (-1000000000000000000)) (List.mem_of_getElem? (i := 4) rfl)) dX9_blame_26 ?_
      exact ty_lret hx hb hr hlk (hG.weak (fun _ _ => gF_mono (by omega))) hS True.intro dX9_blame_29
    · skip
      refine lv_if_ne (tgt := 26) hx hb dX9_blame_14 (by decide) (fun q => absurd rfl q) (fun _ => ?_)
      refine lv_iload_n hx hb dX9_blame_17 rfl (lv_at hl 3 rfl) ?_
      refine lv_pc (pc2 := 18) rfl ?_
      refine lv_iconst (v := 0) hx hb dX9_blame_18 (by decide) ?_
      refine lv_iconst (v := 3) hx hb dX9_blame_19 (by decide) ?_
      refine ty_calli ((W.runS (As := [.int a3, .int 0, .int 3]) (rest := []) ⟨hx, hb, hml, hown, hts⟩ (s_X9_isOutside l D t cI cL cC gC gE G gW gA a3 0 3 0 3 (by decide) (by decide) ) (va_cwS 3 hts gu_X9_blame_X9_isOutside_99 rfl rfl rfl (by decide +kernel) ⟨Nat.le_of_ble_eq_true rfl, Nat.le_of_ble_eq_true rfl⟩) (tP_S hG hE) rfl rfl hl.1 rfl (lv_room (Nat.le_of_ble_eq_true rfl)) dX9_blame_20 ⟨Nat.le_of_ble_eq_true rfl, Nat.le_of_ble_eq_true rfl⟩)) hS (fun k h => by simp [wr0] at h) (fun r_7 H locs hp_8 hG hS o_9 => ?_)
      rcases hp_8 with ⟨rfl, hc_265⟩ | ⟨rfl, hc_266, hc_267⟩
      · skip
        refine lv_if_eq (tgt := 30) hx hb dX9_blame_23 (by decide) (fun q => absurd q (by decide)) (fun _ => ?_)
        refine lv_ldc2 hx hb hown (hts (.constantLong RX9 323 (-1000000000000000000)) (List.mem_of_getElem? (i := 4) rfl)) dX9_blame_26 ?_
        exact ty_lret hx hb hr hlk (hG.weak (fun _ _ => gF_mono (by omega))) hS True.intro dX9_blame_29
      · skip
        refine lv_if_eq (tgt := 30) hx hb dX9_blame_23 (by decide) (fun _ => ?_) (fun q => absurd (by decide) q)
        refine lv_aload_n hx hb dX9_blame_30 rfl (lv_at hl 0 rfl) ?_
        refine lv_pc (pc2 := 31) rfl ?_
        refine lv_iload_n hx hb dX9_blame_31 rfl (lv_at hl 1 rfl) ?_
        obtain ⟨r_10, r_12, r_14, r_16, v_18, v_19, r_20, r_22, r_24, r_26, r_28, r_30, r_32, v_34, r_36, r_38, r_40, r_42, at_44, h_11, h_13, h_15, h_17, h_21, h_23, h_25, h_27, h_29, h_31, h_33, h_35, h_37, h_39, h_41, h_43⟩ := gF_o1 hG k_a0
        refine ty_calli ((W.runV (As := [.int a1]) (rest := []) ⟨hx, hb, hml, hown, hts⟩ (s_X9_lacksGauge l D t cI cL cC gC gE G gW gA a0 a1 k_a0) (cwV 1 hts gu_X9_blame_X9_lacksGauge_212 rfl rfl rfl (by decide +kernel) ⟨Nat.le_of_ble_eq_true rfl, Nat.le_of_ble_eq_true rfl⟩) (tP_V hG hE at_44 rfl) rfl rfl hl.1 rfl (lv_room (Nat.le_of_ble_eq_true rfl)) dX9_blame_32 ⟨Nat.le_of_ble_eq_true rfl, Nat.le_of_ble_eq_true rfl⟩)) hS (fun k h => by simp [wr0] at h) (fun r_45 H locs hp_46 hG hS o_47 => ?_)
        have at_44 := va_at.keptC at_44 o_47 k_a0 rfl
        rcases hp_46 with rfl | rfl
        · skip
          refine lv_if_eq (tgt := 42) hx hb dX9_blame_35 (by decide) (fun _ => ?_) (fun q => absurd (by decide) q)
          refine lv_iload_n hx hb dX9_blame_42 rfl (lv_at hl 3 rfl) ?_
          refine lv_iconst (v := 3) hx hb dX9_blame_43 (by decide) ?_
          refine lv_icmp_ne (tgt := 63) hx hb dX9_blame_44 (by decide) (fun c_48 => ?_) (fun c_48 => ?_)
          · skip
            have c_48 : a3.toInt ≠ 3 := q_ne c_48
            refine lv_aload_n hx hb dX9_blame_63 rfl (lv_at hl 0 rfl) ?_
            refine lv_iload_n hx hb dX9_blame_64 rfl (lv_at hl 3 rfl) ?_
            refine lv_pc (pc2 := 65) rfl ?_
            refine lv_iconst (v := 1) hx hb dX9_blame_65 (by decide) ?_
            refine lv_iadd hx hb dX9_blame_66 ?_
            refine lv_topi (fun x_49 e_50 => ?_)
            refine lv_iload_n hx hb dX9_blame_67 rfl (lv_at hl 1 rfl) ?_
            refine lv_iload_n hx hb dX9_blame_68 rfl (lv_at hl 2 rfl) ?_
            refine ty_calll ((W.runV (As := [.int x_49, .int a1, .int a2]) (rest := []) ⟨hx, hb, hml, hown, hts⟩ (s_X9_changedReading l D t cI cL cC gC gE G gW gA a0 x_49 a1 a2 (by omega) (by omega) k_a0) (cwV 3 hts gu_X9_blame_X9_changedReading_327 rfl rfl rfl (by decide +kernel) ⟨Nat.le_of_ble_eq_true rfl, Nat.le_of_ble_eq_true rfl⟩) (tP_V hG hE at_44 rfl) rfl rfl hl.1 rfl (lv_room (Nat.le_of_ble_eq_true rfl)) dX9_blame_69 ⟨Nat.le_of_ble_eq_true rfl, Nat.le_of_ble_eq_true rfl⟩)) hS (fun _ h => h) (fun z_51 H locs hp_52 hG hS o_53 => ?_)
            have at_44 := va_at.keptC at_44 o_53 k_a0 rfl
            refine lv_aload_n hx hb dX9_blame_72 rfl (lv_at hl 0 rfl) ?_
            refine lv_iload_n hx hb dX9_blame_73 rfl (lv_at hl 3 rfl) ?_
            refine lv_iload_n hx hb dX9_blame_74 rfl (lv_at hl 1 rfl) ?_
            refine lv_pc (pc2 := 75) rfl ?_
            refine lv_iload_n hx hb dX9_blame_75 rfl (lv_at hl 2 rfl) ?_
            refine ty_calll ((W.runV (As := [.int a3, .int a1, .int a2]) (rest := [.long z_51]) ⟨hx, hb, hml, hown, hts⟩ (s_X9_changedReading l D t cI cL cC gC gE (G + 96) gW gA a0 a3 a1 a2 (by omega) (by omega) k_a0) (cwV 3 hts gu_X9_blame_X9_changedReading_327 rfl rfl rfl (by decide +kernel) ⟨Nat.le_of_ble_eq_true rfl, Nat.le_of_ble_eq_true rfl⟩) (tP_V hG hE at_44 rfl) rfl rfl hl.1 rfl (lv_room (Nat.le_of_ble_eq_true rfl)) dX9_blame_76 ⟨Nat.le_of_ble_eq_true rfl, Nat.le_of_ble_eq_true rfl⟩)) hS (fun _ h => h) (fun z_54 H locs hp_55 hG hS o_56 => ?_)
            have at_44 := va_at.keptC at_44 o_56 k_a0 rfl
            refine lv_lsub hx hb dX9_blame_79 ?_
            refine lv_topl (fun z_57 e_58 => ?_)
            exact ty_lret hx hb hr hlk hG hS True.intro dX9_blame_80
          · skip
            have c_48 : a3.toInt = 3 := q_eq c_48
            refine lv_aload_n hx hb dX9_blame_47 rfl (lv_at hl 0 rfl) ?_
            refine lv_iconst (v := 3) hx hb dX9_blame_48 (by decide) ?_
            refine lv_iload_n hx hb dX9_blame_49 rfl (lv_at hl 1 rfl) ?_
            refine lv_iload_n hx hb dX9_blame_50 rfl (lv_at hl 2 rfl) ?_
            refine lv_pc (pc2 := 51) rfl ?_
            refine ty_calll ((W.runV (As := [.int 3, .int a1, .int a2]) (rest := []) ⟨hx, hb, hml, hown, hts⟩ (s_X9_changedReading l D t cI cL cC gC gE G gW gA a0 3 a1 a2 (by omega) (by omega) k_a0) (cwV 3 hts gu_X9_blame_X9_changedReading_327 rfl rfl rfl (by decide +kernel) ⟨Nat.le_of_ble_eq_true rfl, Nat.le_of_ble_eq_true rfl⟩) (tP_V hG hE at_44 rfl) rfl rfl hl.1 rfl (lv_room (Nat.le_of_ble_eq_true rfl)) dX9_blame_51 ⟨Nat.le_of_ble_eq_true rfl, Nat.le_of_ble_eq_true rfl⟩)) hS (fun _ h => h) (fun z_59 H locs hp_60 hG hS o_61 => ?_)
            have at_44 := va_at.keptC at_44 o_61 k_a0 rfl
            refine lv_aload_n hx hb dX9_blame_54 rfl (lv_at hl 0 rfl) ?_
            refine lv_iconst (v := 0) hx hb dX9_blame_55 (by decide) ?_
            refine lv_iload_n hx hb dX9_blame_56 rfl (lv_at hl 1 rfl) ?_
            refine lv_iload_n hx hb dX9_blame_57 rfl (lv_at hl 2 rfl) ?_
            refine ty_calll ((W.runV (As := [.int 0, .int a1, .int a2]) (rest := [.long z_59]) ⟨hx, hb, hml, hown, hts⟩ (s_X9_changedReading l D t cI cL cC gC gE (G + 96) gW gA a0 0 a1 a2 (by omega) (by omega) k_a0) (cwV 3 hts gu_X9_blame_X9_changedReading_327 rfl rfl rfl (by decide +kernel) ⟨Nat.le_of_ble_eq_true rfl, Nat.le_of_ble_eq_true rfl⟩) (tP_V hG hE at_44 rfl) rfl rfl hl.1 rfl (lv_room (Nat.le_of_ble_eq_true rfl)) dX9_blame_58 ⟨Nat.le_of_ble_eq_true rfl, Nat.le_of_ble_eq_true rfl⟩)) hS (fun _ h => h) (fun z_62 H locs hp_63 hG hS o_64 => ?_)
            have at_44 := va_at.keptC at_44 o_64 k_a0 rfl
            refine lv_lsub hx hb dX9_blame_61 ?_
            refine lv_topl (fun z_65 e_66 => ?_)
            exact ty_lret hx hb hr hlk hG hS True.intro dX9_blame_62
        · skip
          refine lv_pc (pc2 := 35) rfl ?_
          refine lv_if_eq (tgt := 42) hx hb dX9_blame_35 (by decide) (fun q => absurd q (by decide)) (fun _ => ?_)
          refine lv_ldc2 hx hb hown (hts (.constantLong RX9 325 (-1000000000000000001)) (List.mem_of_getElem? (i := 13) rfl)) dX9_blame_38 ?_
          exact ty_lret hx hb hr hlk (hG.weak (fun _ _ => gF_mono (by omega))) hS True.intro dX9_blame_41
