theorem dX9_item_0 : decode cX9_item 0 = .ok (.iload_n 1, 1) := by decide +kernel
theorem dX9_item_1 : decode cX9_item 1 = .ok (.invokestatic 127, 3) := by decide +kernel
theorem dX9_item_4 : decode cX9_item 4 = .ok (.ifCond .ne 12, 3) := by decide +kernel
theorem dX9_item_7 : decode cX9_item 7 = .ok (.iload_n 2, 1) := by decide +kernel
theorem dX9_item_8 : decode cX9_item 8 = .ok (.iconst 0, 1) := by decide +kernel
theorem dX9_item_9 : decode cX9_item 9 = .ok (.iconst 5, 1) := by decide +kernel
theorem dX9_item_10 : decode cX9_item 10 = .ok (.invokestatic 99, 3) := by decide +kernel
theorem dX9_item_13 : decode cX9_item 13 = .ok (.ifCond .eq 5, 3) := by decide +kernel
theorem dX9_item_16 : decode cX9_item 16 = .ok (.iconst (-1), 1) := by decide +kernel
theorem dX9_item_17 : decode cX9_item 17 = .ok (.ireturn, 1) := by decide +kernel
theorem dX9_item_18 : decode cX9_item 18 = .ok (.aload_n 0, 1) := by decide +kernel
theorem dX9_item_19 : decode cX9_item 19 = .ok (.iload_n 1, 1) := by decide +kernel
theorem dX9_item_20 : decode cX9_item 20 = .ok (.invokevirtual 131, 3) := by decide +kernel
theorem dX9_item_23 : decode cX9_item 23 = .ok (.ifCond .eq 8, 3) := by decide +kernel
theorem dX9_item_26 : decode cX9_item 26 = .ok (.bipush (-2), 2) := by decide +kernel
theorem dX9_item_28 : decode cX9_item 28 = .ok (.goto 12, 3) := by decide +kernel
theorem dX9_item_40 : decode cX9_item 40 = .ok (.ireturn, 1) := by decide +kernel
theorem dX9_anew_0 : decode cX9_anew 0 = .ok (.aload_n 0, 1) := by decide +kernel
theorem dX9_anew_1 : decode cX9_anew 1 = .ok (.getfield 29, 3) := by decide +kernel
theorem dX9_anew_4 : decode cX9_anew 4 = .ok (.ifCond .ne 6, 3) := by decide +kernel
theorem dX9_anew_7 : decode cX9_anew 7 = .ok (.bipush (-2), 2) := by decide +kernel
theorem dX9_anew_9 : decode cX9_anew 9 = .ok (.ireturn, 1) := by decide +kernel
theorem dX9_run_0 : decode cX9_run 0 = .ok (.iload_n 1, 1) := by decide +kernel
theorem dX9_run_1 : decode cX9_run 1 = .ok (.iconst 1, 1) := by decide +kernel
theorem dX9_run_2 : decode cX9_run 2 = .ok (.bipush 96, 2) := by decide +kernel
theorem dX9_run_4 : decode cX9_run 4 = .ok (.invokestatic 99, 3) := by decide +kernel
theorem dX9_run_7 : decode cX9_run 7 = .ok (.ifCond .eq 5, 3) := by decide +kernel
theorem dX9_run_10 : decode cX9_run 10 = .ok (.iconst (-1), 1) := by decide +kernel
theorem dX9_run_11 : decode cX9_run 11 = .ok (.ireturn, 1) := by decide +kernel
theorem dX9_run_12 : decode cX9_run 12 = .ok (.aload_n 0, 1) := by decide +kernel
theorem dX9_run_13 : decode cX9_run 13 = .ok (.getfield 29, 3) := by decide +kernel
theorem dX9_run_16 : decode cX9_run 16 = .ok (.ifCond .ne 6, 3) := by decide +kernel
theorem dX9_run_19 : decode cX9_run 19 = .ok (.bipush (-2), 2) := by decide +kernel
theorem dX9_run_21 : decode cX9_run 21 = .ok (.ireturn, 1) := by decide +kernel
theorem dX9_has_0 : decode cX9_has 0 = .ok (.iload_n 1, 1) := by decide +kernel
theorem dX9_has_1 : decode cX9_has 1 = .ok (.invokestatic 155, 3) := by decide +kernel
theorem dX9_has_4 : decode cX9_has 4 = .ok (.ifCond .ne 12, 3) := by decide +kernel
theorem dX9_has_7 : decode cX9_has 7 = .ok (.iload_n 2, 1) := by decide +kernel
theorem dX9_has_8 : decode cX9_has 8 = .ok (.iconst 0, 1) := by decide +kernel
theorem dX9_has_9 : decode cX9_has 9 = .ok (.iconst 1, 1) := by decide +kernel
theorem dX9_has_10 : decode cX9_has 10 = .ok (.invokestatic 99, 3) := by decide +kernel
theorem dX9_has_13 : decode cX9_has 13 = .ok (.ifCond .eq 7, 3) := by decide +kernel
theorem dX9_has_16 : decode cX9_has 16 = .ok (.ldc2_w 158, 3) := by decide +kernel
theorem dX9_has_19 : decode cX9_has 19 = .ok (.lreturn, 1) := by decide +kernel
theorem dX9_has_20 : decode cX9_has 20 = .ok (.aload_n 0, 1) := by decide +kernel
theorem dX9_has_21 : decode cX9_has 21 = .ok (.iload_n 1, 1) := by decide +kernel
theorem dX9_has_22 : decode cX9_has 22 = .ok (.invokevirtual 160, 3) := by decide +kernel
theorem dX9_has_25 : decode cX9_has 25 = .ok (.ifCond .eq 7, 3) := by decide +kernel
theorem dX9_has_28 : decode cX9_has 28 = .ok (.ldc2_w 163, 3) := by decide +kernel
theorem dX9_has_31 : decode cX9_has 31 = .ok (.lreturn, 1) := by decide +kernel
theorem dX9_flow_0 : decode cX9_flow 0 = .ok (.iload_n 1, 1) := by decide +kernel
theorem dX9_flow_1 : decode cX9_flow 1 = .ok (.invokestatic 127, 3) := by decide +kernel
theorem dX9_flow_4 : decode cX9_flow 4 = .ok (.ifCond .eq 7, 3) := by decide +kernel
theorem dX9_flow_7 : decode cX9_flow 7 = .ok (.ldc2_w 158, 3) := by decide +kernel
theorem dX9_flow_10 : decode cX9_flow 10 = .ok (.lreturn, 1) := by decide +kernel
theorem dX9_flow_11 : decode cX9_flow 11 = .ok (.aload_n 0, 1) := by decide +kernel
theorem dX9_flow_12 : decode cX9_flow 12 = .ok (.iload_n 1, 1) := by decide +kernel
theorem dX9_flow_13 : decode cX9_flow 13 = .ok (.invokevirtual 131, 3) := by decide +kernel
theorem dX9_flow_16 : decode cX9_flow 16 = .ok (.ifCond .ne 13, 3) := by decide +kernel
theorem dX9_flow_29 : decode cX9_flow 29 = .ok (.ldc2_w 163, 3) := by decide +kernel
theorem dX9_flow_32 : decode cX9_flow 32 = .ok (.goto 12, 3) := by decide +kernel
theorem dX9_flow_44 : decode cX9_flow 44 = .ok (.lreturn, 1) := by decide +kernel
theorem dX9_gate_0 : decode cX9_gate 0 = .ok (.iload_n 1, 1) := by decide +kernel
theorem dX9_gate_1 : decode cX9_gate 1 = .ok (.invokestatic 176, 3) := by decide +kernel
theorem dX9_gate_4 : decode cX9_gate 4 = .ok (.ifCond .ne 13, 3) := by decide +kernel
theorem dX9_gate_7 : decode cX9_gate 7 = .ok (.iload_n 2, 1) := by decide +kernel
theorem dX9_gate_8 : decode cX9_gate 8 = .ok (.iconst 0, 1) := by decide +kernel
theorem dX9_gate_9 : decode cX9_gate 9 = .ok (.bipush 10, 2) := by decide +kernel
theorem dX9_gate_11 : decode cX9_gate 11 = .ok (.invokestatic 99, 3) := by decide +kernel
theorem dX9_gate_14 : decode cX9_gate 14 = .ok (.ifCond .eq 5, 3) := by decide +kernel
theorem dX9_gate_17 : decode cX9_gate 17 = .ok (.iconst (-1), 1) := by decide +kernel
theorem dX9_gate_18 : decode cX9_gate 18 = .ok (.ireturn, 1) := by decide +kernel
theorem dX9_gate_19 : decode cX9_gate 19 = .ok (.aload_n 0, 1) := by decide +kernel
theorem dX9_gate_20 : decode cX9_gate 20 = .ok (.iload_n 1, 1) := by decide +kernel
theorem dX9_gate_21 : decode cX9_gate 21 = .ok (.invokevirtual 179, 3) := by decide +kernel
theorem dX9_gate_24 : decode cX9_gate 24 = .ok (.ifCond .eq 6, 3) := by decide +kernel
theorem dX9_gate_27 : decode cX9_gate 27 = .ok (.bipush (-2), 2) := by decide +kernel
theorem dX9_gate_29 : decode cX9_gate 29 = .ok (.ireturn, 1) := by decide +kernel
theorem dX9_book_0 : decode cX9_book 0 = .ok (.iload_n 1, 1) := by decide +kernel
theorem dX9_book_1 : decode cX9_book 1 = .ok (.iconst 0, 1) := by decide +kernel
theorem dX9_book_2 : decode cX9_book 2 = .ok (.iconst 5, 1) := by decide +kernel
theorem dX9_book_3 : decode cX9_book 3 = .ok (.invokestatic 99, 3) := by decide +kernel
theorem dX9_book_6 : decode cX9_book 6 = .ok (.ifCond .eq 7, 3) := by decide +kernel
theorem dX9_book_9 : decode cX9_book 9 = .ok (.ldc2_w 158, 3) := by decide +kernel
theorem dX9_book_12 : decode cX9_book 12 = .ok (.lreturn, 1) := by decide +kernel
theorem dX9_book_13 : decode cX9_book 13 = .ok (.aload_n 0, 1) := by decide +kernel
theorem dX9_book_14 : decode cX9_book 14 = .ok (.getfield 29, 3) := by decide +kernel
theorem dX9_book_17 : decode cX9_book 17 = .ok (.ifCond .ne 7, 3) := by decide +kernel
theorem dX9_book_20 : decode cX9_book 20 = .ok (.ldc2_w 163, 3) := by decide +kernel
theorem dX9_book_23 : decode cX9_book 23 = .ok (.lreturn, 1) := by decide +kernel
theorem dX9_gauge_0 : decode cX9_gauge 0 = .ok (.iload_n 1, 1) := by decide +kernel
theorem dX9_gauge_1 : decode cX9_gauge 1 = .ok (.invokestatic 205, 3) := by decide +kernel
theorem dX9_gauge_4 : decode cX9_gauge 4 = .ok (.ifCond .ne 12, 3) := by decide +kernel
theorem dX9_gauge_7 : decode cX9_gauge 7 = .ok (.iload_n 2, 1) := by decide +kernel
theorem dX9_gauge_8 : decode cX9_gauge 8 = .ok (.iconst 0, 1) := by decide +kernel
theorem dX9_gauge_9 : decode cX9_gauge 9 = .ok (.iconst 1, 1) := by decide +kernel
theorem dX9_gauge_10 : decode cX9_gauge 10 = .ok (.invokestatic 99, 3) := by decide +kernel
theorem dX9_gauge_13 : decode cX9_gauge 13 = .ok (.ifCond .eq 5, 3) := by decide +kernel
theorem dX9_gauge_16 : decode cX9_gauge 16 = .ok (.iconst (-1), 1) := by decide +kernel
theorem dX9_gauge_17 : decode cX9_gauge 17 = .ok (.ireturn, 1) := by decide +kernel
theorem dX9_gauge_18 : decode cX9_gauge 18 = .ok (.iload_n 2, 1) := by decide +kernel
theorem dX9_gauge_19 : decode cX9_gauge 19 = .ok (.ifCond .ne 13, 3) := by decide +kernel
theorem dX9_gauge_22 : decode cX9_gauge 22 = .ok (.iload_n 3, 1) := by decide +kernel
theorem dX9_gauge_23 : decode cX9_gauge 23 = .ok (.invokestatic 127, 3) := by decide +kernel
theorem dX9_gauge_26 : decode cX9_gauge 26 = .ok (.ifCond .eq 15, 3) := by decide +kernel
theorem dX9_gauge_29 : decode cX9_gauge 29 = .ok (.goto 10, 3) := by decide +kernel
theorem dX9_gauge_32 : decode cX9_gauge 32 = .ok (.iload_n 3, 1) := by decide +kernel
theorem dX9_gauge_33 : decode cX9_gauge 33 = .ok (.invokestatic 155, 3) := by decide +kernel
theorem dX9_gauge_36 : decode cX9_gauge 36 = .ok (.ifCond .eq 5, 3) := by decide +kernel
theorem dX9_gauge_39 : decode cX9_gauge 39 = .ok (.iconst (-1), 1) := by decide +kernel
theorem dX9_gauge_40 : decode cX9_gauge 40 = .ok (.ireturn, 1) := by decide +kernel
theorem dX9_gauge_41 : decode cX9_gauge 41 = .ok (.iload_n 2, 1) := by decide +kernel
theorem dX9_gauge_42 : decode cX9_gauge 42 = .ok (.ifCond .ne 14, 3) := by decide +kernel
theorem dX9_gauge_45 : decode cX9_gauge 45 = .ok (.aload_n 0, 1) := by decide +kernel
theorem dX9_gauge_46 : decode cX9_gauge 46 = .ok (.iload_n 3, 1) := by decide +kernel
theorem dX9_gauge_47 : decode cX9_gauge 47 = .ok (.invokevirtual 131, 3) := by decide +kernel
theorem dX9_gauge_50 : decode cX9_gauge 50 = .ok (.ifCond .eq 17, 3) := by decide +kernel
theorem dX9_gauge_53 : decode cX9_gauge 53 = .ok (.goto 11, 3) := by decide +kernel
theorem dX9_gauge_56 : decode cX9_gauge 56 = .ok (.aload_n 0, 1) := by decide +kernel
theorem dX9_gauge_57 : decode cX9_gauge 57 = .ok (.iload_n 3, 1) := by decide +kernel
theorem dX9_gauge_58 : decode cX9_gauge 58 = .ok (.invokevirtual 160, 3) := by decide +kernel
theorem dX9_gauge_61 : decode cX9_gauge 61 = .ok (.ifCond .eq 6, 3) := by decide +kernel
theorem dX9_gauge_64 : decode cX9_gauge 64 = .ok (.bipush (-2), 2) := by decide +kernel
theorem dX9_gauge_66 : decode cX9_gauge 66 = .ok (.ireturn, 1) := by decide +kernel
theorem dX9_reads_0 : decode cX9_reads 0 = .ok (.iload_n 1, 1) := by decide +kernel
theorem dX9_reads_1 : decode cX9_reads 1 = .ok (.invokestatic 205, 3) := by decide +kernel
theorem dX9_reads_4 : decode cX9_reads 4 = .ok (.ifCond .eq 7, 3) := by decide +kernel
theorem dX9_reads_7 : decode cX9_reads 7 = .ok (.ldc2_w 158, 3) := by decide +kernel
theorem dX9_reads_10 : decode cX9_reads 10 = .ok (.lreturn, 1) := by decide +kernel
theorem dX9_reads_11 : decode cX9_reads 11 = .ok (.aload_n 0, 1) := by decide +kernel
theorem dX9_reads_12 : decode cX9_reads 12 = .ok (.iload_n 1, 1) := by decide +kernel
theorem dX9_reads_13 : decode cX9_reads 13 = .ok (.invokevirtual 212, 3) := by decide +kernel
theorem dX9_reads_16 : decode cX9_reads 16 = .ok (.ifCond .ne 13, 3) := by decide +kernel
theorem dX9_reads_29 : decode cX9_reads 29 = .ok (.ldc2_w 163, 3) := by decide +kernel
theorem dX9_reads_32 : decode cX9_reads 32 = .ok (.goto 15, 3) := by decide +kernel
theorem dX9_reads_47 : decode cX9_reads 47 = .ok (.lreturn, 1) := by decide +kernel
theorem dX9_see_0 : decode cX9_see 0 = .ok (.iload_n 1, 1) := by decide +kernel
theorem dX9_see_1 : decode cX9_see 1 = .ok (.invokestatic 205, 3) := by decide +kernel
theorem dX9_see_4 : decode cX9_see 4 = .ok (.ifCond .ne 23, 3) := by decide +kernel
theorem dX9_see_7 : decode cX9_see 7 = .ok (.iload_n 2, 1) := by decide +kernel
theorem dX9_see_8 : decode cX9_see 8 = .ok (.iconst 0, 1) := by decide +kernel
theorem dX9_see_9 : decode cX9_see 9 = .ok (.bipush 95, 2) := by decide +kernel
theorem dX9_see_11 : decode cX9_see 11 = .ok (.invokestatic 99, 3) := by decide +kernel
theorem dX9_see_14 : decode cX9_see 14 = .ok (.ifCond .ne 13, 3) := by decide +kernel
theorem dX9_see_17 : decode cX9_see 17 = .ok (.iload_n 3, 1) := by decide +kernel
theorem dX9_see_18 : decode cX9_see 18 = .ok (.iconst (-1), 1) := by decide +kernel
theorem dX9_see_19 : decode cX9_see 19 = .ok (.ldc 219, 2) := by decide +kernel
theorem dX9_see_21 : decode cX9_see 21 = .ok (.invokestatic 99, 3) := by decide +kernel
theorem dX9_see_24 : decode cX9_see 24 = .ok (.ifCond .eq 6, 3) := by decide +kernel
theorem dX9_see_27 : decode cX9_see 27 = .ok (.bipush (-100), 2) := by decide +kernel
theorem dX9_see_29 : decode cX9_see 29 = .ok (.ireturn, 1) := by decide +kernel
theorem dX9_see_30 : decode cX9_see 30 = .ok (.aload_n 0, 1) := by decide +kernel
theorem dX9_see_31 : decode cX9_see 31 = .ok (.iload_n 1, 1) := by decide +kernel
theorem dX9_see_32 : decode cX9_see 32 = .ok (.invokevirtual 212, 3) := by decide +kernel
theorem dX9_see_35 : decode cX9_see 35 = .ok (.ifCond .eq 8, 3) := by decide +kernel
theorem dX9_see_38 : decode cX9_see 38 = .ok (.bipush (-102), 2) := by decide +kernel
theorem dX9_see_40 : decode cX9_see 40 = .ok (.goto 13, 3) := by decide +kernel
theorem dX9_see_53 : decode cX9_see 53 = .ok (.ireturn, 1) := by decide +kernel
theorem dX9_knob_0 : decode cX9_knob 0 = .ok (.iload_n 1, 1) := by decide +kernel
theorem dX9_knob_1 : decode cX9_knob 1 = .ok (.invokestatic 228, 3) := by decide +kernel
theorem dX9_knob_4 : decode cX9_knob 4 = .ok (.ifCond .ne 19, 3) := by decide +kernel
theorem dX9_knob_7 : decode cX9_knob 7 = .ok (.iload_n 2, 1) := by decide +kernel
theorem dX9_knob_8 : decode cX9_knob 8 = .ok (.invokestatic 127, 3) := by decide +kernel
theorem dX9_knob_11 : decode cX9_knob 11 = .ok (.ifCond .ne 12, 3) := by decide +kernel
theorem dX9_knob_14 : decode cX9_knob 14 = .ok (.iload_n 3, 1) := by decide +kernel
theorem dX9_knob_15 : decode cX9_knob 15 = .ok (.iconst 0, 1) := by decide +kernel
theorem dX9_knob_16 : decode cX9_knob 16 = .ok (.iconst 2, 1) := by decide +kernel
theorem dX9_knob_17 : decode cX9_knob 17 = .ok (.invokestatic 99, 3) := by decide +kernel
theorem dX9_knob_20 : decode cX9_knob 20 = .ok (.ifCond .eq 5, 3) := by decide +kernel
theorem dX9_knob_23 : decode cX9_knob 23 = .ok (.iconst (-1), 1) := by decide +kernel
theorem dX9_knob_24 : decode cX9_knob 24 = .ok (.ireturn, 1) := by decide +kernel
theorem dX9_knob_25 : decode cX9_knob 25 = .ok (.iload 4, 2) := by decide +kernel
theorem dX9_knob_27 : decode cX9_knob 27 = .ok (.iconst 0, 1) := by decide +kernel
theorem dX9_knob_28 : decode cX9_knob 28 = .ok (.ldc 231, 2) := by decide +kernel
theorem dX9_knob_30 : decode cX9_knob 30 = .ok (.invokestatic 99, 3) := by decide +kernel
theorem dX9_knob_33 : decode cX9_knob 33 = .ok (.ifCond .ne 25, 3) := by decide +kernel
theorem dX9_knob_36 : decode cX9_knob 36 = .ok (.iload 5, 2) := by decide +kernel
theorem dX9_knob_38 : decode cX9_knob 38 = .ok (.iconst 1, 1) := by decide +kernel
theorem dX9_knob_39 : decode cX9_knob 39 = .ok (.ldc 231, 2) := by decide +kernel
theorem dX9_knob_41 : decode cX9_knob 41 = .ok (.invokestatic 99, 3) := by decide +kernel
theorem dX9_knob_44 : decode cX9_knob 44 = .ok (.ifCond .ne 14, 3) := by decide +kernel
theorem dX9_knob_47 : decode cX9_knob 47 = .ok (.iload 6, 2) := by decide +kernel
theorem dX9_knob_49 : decode cX9_knob 49 = .ok (.iconst 0, 1) := by decide +kernel
theorem dX9_knob_50 : decode cX9_knob 50 = .ok (.bipush 16, 2) := by decide +kernel
theorem dX9_knob_52 : decode cX9_knob 52 = .ok (.invokestatic 99, 3) := by decide +kernel
theorem dX9_knob_55 : decode cX9_knob 55 = .ok (.ifCond .eq 5, 3) := by decide +kernel
theorem dX9_knob_58 : decode cX9_knob 58 = .ok (.iconst (-1), 1) := by decide +kernel
theorem dX9_knob_59 : decode cX9_knob 59 = .ok (.ireturn, 1) := by decide +kernel
theorem dX9_knob_60 : decode cX9_knob 60 = .ok (.aload_n 0, 1) := by decide +kernel
theorem dX9_knob_61 : decode cX9_knob 61 = .ok (.iload_n 2, 1) := by decide +kernel
theorem dX9_knob_62 : decode cX9_knob 62 = .ok (.invokevirtual 131, 3) := by decide +kernel
theorem dX9_knob_65 : decode cX9_knob 65 = .ok (.ifCond .ne 15, 3) := by decide +kernel
theorem dX9_knob_80 : decode cX9_knob 80 = .ok (.bipush (-2), 2) := by decide +kernel
theorem dX9_knob_82 : decode cX9_knob 82 = .ok (.ireturn, 1) := by decide +kernel
theorem dX9_fits_0 : decode cX9_fits 0 = .ok (.aload_n 0, 1) := by decide +kernel
theorem dX9_fits_1 : decode cX9_fits 1 = .ok (.getfield 29, 3) := by decide +kernel
theorem dX9_fits_4 : decode cX9_fits 4 = .ok (.ifCond .ne 6, 3) := by decide +kernel
theorem dX9_fits_7 : decode cX9_fits 7 = .ok (.bipush (-2), 2) := by decide +kernel
theorem dX9_fits_9 : decode cX9_fits 9 = .ok (.ireturn, 1) := by decide +kernel
theorem dX9_fit_0 : decode cX9_fit 0 = .ok (.iload_n 1, 1) := by decide +kernel
theorem dX9_fit_1 : decode cX9_fit 1 = .ok (.ifCond .lt 10, 3) := by decide +kernel
theorem dX9_fit_4 : decode cX9_fit 4 = .ok (.iload_n 2, 1) := by decide +kernel
theorem dX9_fit_5 : decode cX9_fit 5 = .ok (.invokestatic 228, 3) := by decide +kernel
theorem dX9_fit_8 : decode cX9_fit 8 = .ok (.ifCond .eq 5, 3) := by decide +kernel
theorem dX9_fit_11 : decode cX9_fit 11 = .ok (.iconst (-1), 1) := by decide +kernel
theorem dX9_fit_12 : decode cX9_fit 12 = .ok (.ireturn, 1) := by decide +kernel
theorem dX9_fit_13 : decode cX9_fit 13 = .ok (.aload_n 0, 1) := by decide +kernel
theorem dX9_fit_14 : decode cX9_fit 14 = .ok (.getfield 29, 3) := by decide +kernel
theorem dX9_fit_17 : decode cX9_fit 17 = .ok (.ifCond .ne 6, 3) := by decide +kernel
theorem dX9_fit_20 : decode cX9_fit 20 = .ok (.bipush (-2), 2) := by decide +kernel
theorem dX9_fit_22 : decode cX9_fit 22 = .ok (.ireturn, 1) := by decide +kernel
theorem dX9_take_0 : decode cX9_take 0 = .ok (.iload_n 1, 1) := by decide +kernel
theorem dX9_take_1 : decode cX9_take 1 = .ok (.ifCond .ge 5, 3) := by decide +kernel
theorem dX9_take_4 : decode cX9_take 4 = .ok (.iconst (-1), 1) := by decide +kernel
theorem dX9_take_5 : decode cX9_take 5 = .ok (.ireturn, 1) := by decide +kernel
theorem dX9_take_6 : decode cX9_take 6 = .ok (.aload_n 0, 1) := by decide +kernel
theorem dX9_take_7 : decode cX9_take 7 = .ok (.getfield 29, 3) := by decide +kernel
theorem dX9_take_10 : decode cX9_take 10 = .ok (.ifCond .ne 6, 3) := by decide +kernel
theorem dX9_take_13 : decode cX9_take 13 = .ok (.bipush (-2), 2) := by decide +kernel
theorem dX9_take_15 : decode cX9_take 15 = .ok (.ireturn, 1) := by decide +kernel
theorem dX9_chance_0 : decode cX9_chance 0 = .ok (.iload_n 1, 1) := by decide +kernel
theorem dX9_chance_1 : decode cX9_chance 1 = .ok (.invokestatic 205, 3) := by decide +kernel
theorem dX9_chance_4 : decode cX9_chance 4 = .ok (.ifCond .ne 13, 3) := by decide +kernel
theorem dX9_chance_7 : decode cX9_chance 7 = .ok (.iload_n 2, 1) := by decide +kernel
theorem dX9_chance_8 : decode cX9_chance 8 = .ok (.iconst 1, 1) := by decide +kernel
theorem dX9_chance_9 : decode cX9_chance 9 = .ok (.bipush 24, 2) := by decide +kernel
theorem dX9_chance_11 : decode cX9_chance 11 = .ok (.invokestatic 99, 3) := by decide +kernel
theorem dX9_chance_14 : decode cX9_chance 14 = .ok (.ifCond .eq 5, 3) := by decide +kernel
theorem dX9_chance_17 : decode cX9_chance 17 = .ok (.iconst (-1), 1) := by decide +kernel
theorem dX9_chance_18 : decode cX9_chance 18 = .ok (.ireturn, 1) := by decide +kernel
theorem dX9_chance_19 : decode cX9_chance 19 = .ok (.aload_n 0, 1) := by decide +kernel
theorem dX9_chance_20 : decode cX9_chance 20 = .ok (.iload_n 1, 1) := by decide +kernel
theorem dX9_chance_21 : decode cX9_chance 21 = .ok (.invokevirtual 212, 3) := by decide +kernel
theorem dX9_chance_24 : decode cX9_chance 24 = .ok (.ifCond .ne 11, 3) := by decide +kernel
theorem dX9_chance_35 : decode cX9_chance 35 = .ok (.bipush (-2), 2) := by decide +kernel
theorem dX9_chance_37 : decode cX9_chance 37 = .ok (.goto 10, 3) := by decide +kernel
theorem dX9_chance_47 : decode cX9_chance 47 = .ok (.ireturn, 1) := by decide +kernel
theorem dX9_warn_0 : decode cX9_warn 0 = .ok (.iload_n 1, 1) := by decide +kernel
theorem dX9_warn_1 : decode cX9_warn 1 = .ok (.invokestatic 205, 3) := by decide +kernel
theorem dX9_warn_4 : decode cX9_warn 4 = .ok (.ifCond .ne 24, 3) := by decide +kernel
theorem dX9_warn_7 : decode cX9_warn 7 = .ok (.iload_n 2, 1) := by decide +kernel
theorem dX9_warn_8 : decode cX9_warn 8 = .ok (.iconst 1, 1) := by decide +kernel
theorem dX9_warn_9 : decode cX9_warn 9 = .ok (.bipush 24, 2) := by decide +kernel
theorem dX9_warn_11 : decode cX9_warn 11 = .ok (.invokestatic 99, 3) := by decide +kernel
theorem dX9_warn_14 : decode cX9_warn 14 = .ok (.ifCond .ne 14, 3) := by decide +kernel
theorem dX9_warn_17 : decode cX9_warn 17 = .ok (.iload 5, 2) := by decide +kernel
theorem dX9_warn_19 : decode cX9_warn 19 = .ok (.iconst 0, 1) := by decide +kernel
theorem dX9_warn_20 : decode cX9_warn 20 = .ok (.bipush 100, 2) := by decide +kernel
theorem dX9_warn_22 : decode cX9_warn 22 = .ok (.invokestatic 99, 3) := by decide +kernel
theorem dX9_warn_25 : decode cX9_warn 25 = .ok (.ifCond .eq 5, 3) := by decide +kernel
theorem dX9_warn_28 : decode cX9_warn 28 = .ok (.iconst (-1), 1) := by decide +kernel
theorem dX9_warn_29 : decode cX9_warn 29 = .ok (.ireturn, 1) := by decide +kernel
theorem dX9_warn_30 : decode cX9_warn 30 = .ok (.aload_n 0, 1) := by decide +kernel
theorem dX9_warn_31 : decode cX9_warn 31 = .ok (.iload_n 1, 1) := by decide +kernel
theorem dX9_warn_32 : decode cX9_warn 32 = .ok (.invokevirtual 212, 3) := by decide +kernel
theorem dX9_warn_35 : decode cX9_warn 35 = .ok (.ifCond .ne 11, 3) := by decide +kernel
theorem dX9_warn_46 : decode cX9_warn 46 = .ok (.bipush (-2), 2) := by decide +kernel
theorem dX9_warn_48 : decode cX9_warn 48 = .ok (.ireturn, 1) := by decide +kernel
theorem dX9_booked_0 : decode cX9_booked 0 = .ok (.iload_n 1, 1) := by decide +kernel
theorem dX9_booked_1 : decode cX9_booked 1 = .ok (.iconst 0, 1) := by decide +kernel
theorem dX9_booked_2 : decode cX9_booked 2 = .ok (.iconst 3, 1) := by decide +kernel
theorem dX9_booked_3 : decode cX9_booked 3 = .ok (.invokestatic 99, 3) := by decide +kernel
theorem dX9_booked_6 : decode cX9_booked 6 = .ok (.ifCond .eq 7, 3) := by decide +kernel
theorem dX9_booked_9 : decode cX9_booked 9 = .ok (.iconst (-1), 1) := by decide +kernel
theorem dX9_booked_10 : decode cX9_booked 10 = .ok (.goto 12, 3) := by decide +kernel
theorem dX9_booked_13 : decode cX9_booked 13 = .ok (.aload_n 0, 1) := by decide +kernel
theorem dX9_booked_14 : decode cX9_booked 14 = .ok (.getfield 88, 3) := by decide +kernel
theorem dX9_booked_17 : decode cX9_booked 17 = .ok (.getfield 283, 3) := by decide +kernel
theorem dX9_booked_20 : decode cX9_booked 20 = .ok (.iload_n 1, 1) := by decide +kernel
theorem dX9_booked_21 : decode cX9_booked 21 = .ok (.iaload, 1) := by decide +kernel
theorem dX9_booked_22 : decode cX9_booked 22 = .ok (.ireturn, 1) := by decide +kernel
theorem dX9_peak_0 : decode cX9_peak 0 = .ok (.iload_n 1, 1) := by decide +kernel
theorem dX9_peak_1 : decode cX9_peak 1 = .ok (.invokestatic 205, 3) := by decide +kernel
theorem dX9_peak_4 : decode cX9_peak 4 = .ok (.ifCond .ne 22, 3) := by decide +kernel
theorem dX9_peak_7 : decode cX9_peak 7 = .ok (.iload_n 2, 1) := by decide +kernel
theorem dX9_peak_8 : decode cX9_peak 8 = .ok (.iconst 1, 1) := by decide +kernel
theorem dX9_peak_9 : decode cX9_peak 9 = .ok (.bipush 24, 2) := by decide +kernel
theorem dX9_peak_11 : decode cX9_peak 11 = .ok (.invokestatic 99, 3) := by decide +kernel
theorem dX9_peak_14 : decode cX9_peak 14 = .ok (.ifCond .ne 12, 3) := by decide +kernel
theorem dX9_peak_17 : decode cX9_peak 17 = .ok (.iload_n 3, 1) := by decide +kernel
theorem dX9_peak_18 : decode cX9_peak 18 = .ok (.iconst (-1), 1) := by decide +kernel
theorem dX9_peak_19 : decode cX9_peak 19 = .ok (.iconst 3, 1) := by decide +kernel
theorem dX9_peak_20 : decode cX9_peak 20 = .ok (.invokestatic 99, 3) := by decide +kernel
theorem dX9_peak_23 : decode cX9_peak 23 = .ok (.ifCond .eq 7, 3) := by decide +kernel
theorem dX9_peak_26 : decode cX9_peak 26 = .ok (.ldc2_w 158, 3) := by decide +kernel
theorem dX9_peak_29 : decode cX9_peak 29 = .ok (.lreturn, 1) := by decide +kernel
theorem dX9_peak_30 : decode cX9_peak 30 = .ok (.aload_n 0, 1) := by decide +kernel
theorem dX9_peak_31 : decode cX9_peak 31 = .ok (.iload_n 1, 1) := by decide +kernel
theorem dX9_peak_32 : decode cX9_peak 32 = .ok (.invokevirtual 212, 3) := by decide +kernel
theorem dX9_peak_35 : decode cX9_peak 35 = .ok (.ifCond .ne 11, 3) := by decide +kernel
theorem dX9_peak_46 : decode cX9_peak 46 = .ok (.ldc2_w 163, 3) := by decide +kernel
theorem dX9_peak_49 : decode cX9_peak 49 = .ok (.goto 10, 3) := by decide +kernel
theorem dX9_peak_59 : decode cX9_peak 59 = .ok (.lreturn, 1) := by decide +kernel
theorem dX9_best_0 : decode cX9_best 0 = .ok (.iload_n 1, 1) := by decide +kernel
theorem dX9_best_1 : decode cX9_best 1 = .ok (.invokestatic 176, 3) := by decide +kernel
theorem dX9_best_4 : decode cX9_best 4 = .ok (.ifCond .ne 20, 3) := by decide +kernel
theorem dX9_best_7 : decode cX9_best 7 = .ok (.iload_n 2, 1) := by decide +kernel
theorem dX9_best_8 : decode cX9_best 8 = .ok (.iconst 1, 1) := by decide +kernel
theorem dX9_best_9 : decode cX9_best 9 = .ok (.bipush 6, 2) := by decide +kernel
theorem dX9_best_11 : decode cX9_best 11 = .ok (.invokestatic 99, 3) := by decide +kernel
theorem dX9_best_14 : decode cX9_best 14 = .ok (.ifCond .ne 10, 3) := by decide +kernel
theorem dX9_best_17 : decode cX9_best 17 = .ok (.iload_n 3, 1) := by decide +kernel
theorem dX9_best_18 : decode cX9_best 18 = .ok (.invokestatic 205, 3) := by decide +kernel
theorem dX9_best_21 : decode cX9_best 21 = .ok (.ifCond .eq 7, 3) := by decide +kernel
theorem dX9_best_24 : decode cX9_best 24 = .ok (.ldc2_w 158, 3) := by decide +kernel
theorem dX9_best_27 : decode cX9_best 27 = .ok (.lreturn, 1) := by decide +kernel
theorem dX9_best_28 : decode cX9_best 28 = .ok (.iload 4, 2) := by decide +kernel
theorem dX9_best_30 : decode cX9_best 30 = .ok (.invokestatic 155, 3) := by decide +kernel
theorem dX9_best_33 : decode cX9_best 33 = .ok (.ifCond .ne 13, 3) := by decide +kernel
theorem dX9_best_36 : decode cX9_best 36 = .ok (.iload 7, 2) := by decide +kernel
theorem dX9_best_38 : decode cX9_best 38 = .ok (.iconst (-1), 1) := by decide +kernel
theorem dX9_best_39 : decode cX9_best 39 = .ok (.iconst 3, 1) := by decide +kernel
theorem dX9_best_40 : decode cX9_best 40 = .ok (.invokestatic 99, 3) := by decide +kernel
theorem dX9_best_43 : decode cX9_best 43 = .ok (.ifCond .eq 7, 3) := by decide +kernel
theorem dX9_best_46 : decode cX9_best 46 = .ok (.ldc2_w 158, 3) := by decide +kernel
theorem dX9_best_49 : decode cX9_best 49 = .ok (.lreturn, 1) := by decide +kernel
theorem dX9_best_50 : decode cX9_best 50 = .ok (.aload_n 0, 1) := by decide +kernel
theorem dX9_best_51 : decode cX9_best 51 = .ok (.iload_n 1, 1) := by decide +kernel
theorem dX9_best_52 : decode cX9_best 52 = .ok (.invokevirtual 179, 3) := by decide +kernel
theorem dX9_best_55 : decode cX9_best 55 = .ok (.ifCond .ne 30, 3) := by decide +kernel
theorem dX9_best_85 : decode cX9_best 85 = .ok (.ldc2_w 163, 3) := by decide +kernel
theorem dX9_best_88 : decode cX9_best 88 = .ok (.lreturn, 1) := by decide +kernel
theorem dX9_swap_0 : decode cX9_swap 0 = .ok (.iload_n 1, 1) := by decide +kernel
theorem dX9_swap_1 : decode cX9_swap 1 = .ok (.invokestatic 127, 3) := by decide +kernel
theorem dX9_swap_4 : decode cX9_swap 4 = .ok (.ifCond .eq 5, 3) := by decide +kernel
theorem dX9_swap_7 : decode cX9_swap 7 = .ok (.iconst (-1), 1) := by decide +kernel
theorem dX9_swap_8 : decode cX9_swap 8 = .ok (.ireturn, 1) := by decide +kernel
theorem dX9_swap_9 : decode cX9_swap 9 = .ok (.aload_n 0, 1) := by decide +kernel
theorem dX9_swap_10 : decode cX9_swap 10 = .ok (.iload_n 1, 1) := by decide +kernel
theorem dX9_swap_11 : decode cX9_swap 11 = .ok (.invokevirtual 131, 3) := by decide +kernel
theorem dX9_swap_14 : decode cX9_swap 14 = .ok (.ifCond .ne 31, 3) := by decide +kernel
theorem dX9_swap_45 : decode cX9_swap 45 = .ok (.bipush (-2), 2) := by decide +kernel
theorem dX9_swap_47 : decode cX9_swap 47 = .ok (.ireturn, 1) := by decide +kernel
theorem dX9_swapped_0 : decode cX9_swapped 0 = .ok (.iload_n 1, 1) := by decide +kernel
theorem dX9_swapped_1 : decode cX9_swapped 1 = .ok (.invokestatic 205, 3) := by decide +kernel
theorem dX9_swapped_4 : decode cX9_swapped 4 = .ok (.ifCond .ne 22, 3) := by decide +kernel
theorem dX9_swapped_7 : decode cX9_swapped 7 = .ok (.iload_n 2, 1) := by decide +kernel
theorem dX9_swapped_8 : decode cX9_swapped 8 = .ok (.iconst 1, 1) := by decide +kernel
theorem dX9_swapped_9 : decode cX9_swapped 9 = .ok (.bipush 96, 2) := by decide +kernel
theorem dX9_swapped_11 : decode cX9_swapped 11 = .ok (.invokestatic 99, 3) := by decide +kernel
theorem dX9_swapped_14 : decode cX9_swapped 14 = .ok (.ifCond .ne 12, 3) := by decide +kernel
theorem dX9_swapped_17 : decode cX9_swapped 17 = .ok (.iload_n 3, 1) := by decide +kernel
theorem dX9_swapped_18 : decode cX9_swapped 18 = .ok (.iconst 0, 1) := by decide +kernel
theorem dX9_swapped_19 : decode cX9_swapped 19 = .ok (.iconst 1, 1) := by decide +kernel
theorem dX9_swapped_20 : decode cX9_swapped 20 = .ok (.invokestatic 99, 3) := by decide +kernel
theorem dX9_swapped_23 : decode cX9_swapped 23 = .ok (.ifCond .eq 7, 3) := by decide +kernel
theorem dX9_swapped_26 : decode cX9_swapped 26 = .ok (.ldc2_w 158, 3) := by decide +kernel
theorem dX9_swapped_29 : decode cX9_swapped 29 = .ok (.lreturn, 1) := by decide +kernel
theorem dX9_swapped_30 : decode cX9_swapped 30 = .ok (.aload_n 0, 1) := by decide +kernel
theorem dX9_swapped_31 : decode cX9_swapped 31 = .ok (.getfield 33, 3) := by decide +kernel
theorem dX9_swapped_34 : decode cX9_swapped 34 = .ok (.ifCond .eq 11, 3) := by decide +kernel
theorem dX9_swapped_45 : decode cX9_swapped 45 = .ok (.ldc2_w 163, 3) := by decide +kernel
theorem dX9_swapped_48 : decode cX9_swapped 48 = .ok (.lreturn, 1) := by decide +kernel
theorem dX9_laySwap_0 : decode cX9_laySwap 0 = .ok (.aload_n 0, 1) := by decide +kernel
theorem dX9_laySwap_1 : decode cX9_laySwap 1 = .ok (.getfield 33, 3) := by decide +kernel
theorem dX9_laySwap_4 : decode cX9_laySwap 4 = .ok (.ifCond .ne 6, 3) := by decide +kernel
theorem dX9_laySwap_7 : decode cX9_laySwap 7 = .ok (.bipush (-2), 2) := by decide +kernel
theorem dX9_laySwap_9 : decode cX9_laySwap 9 = .ok (.ireturn, 1) := by decide +kernel
theorem dX9_startB_0 : decode cX9_startB 0 = .ok (.iload_n 1, 1) := by decide +kernel
theorem dX9_startB_1 : decode cX9_startB 1 = .ok (.invokestatic 155, 3) := by decide +kernel
theorem dX9_startB_4 : decode cX9_startB 4 = .ok (.ifCond .ne 13, 3) := by decide +kernel
theorem dX9_startB_7 : decode cX9_startB 7 = .ok (.iload_n 2, 1) := by decide +kernel
theorem dX9_startB_8 : decode cX9_startB 8 = .ok (.iconst 0, 1) := by decide +kernel
theorem dX9_startB_9 : decode cX9_startB 9 = .ok (.ldc 231, 2) := by decide +kernel
theorem dX9_startB_11 : decode cX9_startB 11 = .ok (.invokestatic 99, 3) := by decide +kernel
theorem dX9_startB_14 : decode cX9_startB 14 = .ok (.ifCond .eq 5, 3) := by decide +kernel
theorem dX9_startB_17 : decode cX9_startB 17 = .ok (.iconst (-1), 1) := by decide +kernel
theorem dX9_startB_18 : decode cX9_startB 18 = .ok (.ireturn, 1) := by decide +kernel
theorem dX9_startB_19 : decode cX9_startB 19 = .ok (.aload_n 0, 1) := by decide +kernel
theorem dX9_startB_20 : decode cX9_startB 20 = .ok (.iload_n 1, 1) := by decide +kernel
theorem dX9_startB_21 : decode cX9_startB 21 = .ok (.invokevirtual 160, 3) := by decide +kernel
theorem dX9_startB_24 : decode cX9_startB 24 = .ok (.ifCond .eq 6, 3) := by decide +kernel
theorem dX9_startB_27 : decode cX9_startB 27 = .ok (.bipush (-2), 2) := by decide +kernel
theorem dX9_startB_29 : decode cX9_startB 29 = .ok (.ireturn, 1) := by decide +kernel
theorem dX9_blame_0 : decode cX9_blame 0 = .ok (.iload_n 1, 1) := by decide +kernel
theorem dX9_blame_1 : decode cX9_blame 1 = .ok (.invokestatic 205, 3) := by decide +kernel
theorem dX9_blame_4 : decode cX9_blame 4 = .ok (.ifCond .ne 22, 3) := by decide +kernel
theorem dX9_blame_7 : decode cX9_blame 7 = .ok (.iload_n 2, 1) := by decide +kernel
theorem dX9_blame_8 : decode cX9_blame 8 = .ok (.iconst 0, 1) := by decide +kernel
theorem dX9_blame_9 : decode cX9_blame 9 = .ok (.bipush 95, 2) := by decide +kernel
theorem dX9_blame_11 : decode cX9_blame 11 = .ok (.invokestatic 99, 3) := by decide +kernel
theorem dX9_blame_14 : decode cX9_blame 14 = .ok (.ifCond .ne 12, 3) := by decide +kernel
theorem dX9_blame_17 : decode cX9_blame 17 = .ok (.iload_n 3, 1) := by decide +kernel
theorem dX9_blame_18 : decode cX9_blame 18 = .ok (.iconst 0, 1) := by decide +kernel
theorem dX9_blame_19 : decode cX9_blame 19 = .ok (.iconst 3, 1) := by decide +kernel
theorem dX9_blame_20 : decode cX9_blame 20 = .ok (.invokestatic 99, 3) := by decide +kernel
theorem dX9_blame_23 : decode cX9_blame 23 = .ok (.ifCond .eq 7, 3) := by decide +kernel
theorem dX9_blame_26 : decode cX9_blame 26 = .ok (.ldc2_w 323, 3) := by decide +kernel
theorem dX9_blame_29 : decode cX9_blame 29 = .ok (.lreturn, 1) := by decide +kernel
theorem dX9_blame_30 : decode cX9_blame 30 = .ok (.aload_n 0, 1) := by decide +kernel
theorem dX9_blame_31 : decode cX9_blame 31 = .ok (.iload_n 1, 1) := by decide +kernel
theorem dX9_blame_32 : decode cX9_blame 32 = .ok (.invokevirtual 212, 3) := by decide +kernel
theorem dX9_blame_35 : decode cX9_blame 35 = .ok (.ifCond .eq 7, 3) := by decide +kernel
theorem dX9_blame_38 : decode cX9_blame 38 = .ok (.ldc2_w 325, 3) := by decide +kernel
theorem dX9_blame_41 : decode cX9_blame 41 = .ok (.lreturn, 1) := by decide +kernel
theorem dX9_keep_0 : decode cX9_keep 0 = .ok (.aload_n 0, 1) := by decide +kernel
theorem dX9_keep_1 : decode cX9_keep 1 = .ok (.getfield 29, 3) := by decide +kernel
theorem dX9_keep_4 : decode cX9_keep 4 = .ok (.ifCond .ne 6, 3) := by decide +kernel
theorem dX9_keep_7 : decode cX9_keep 7 = .ok (.bipush (-2), 2) := by decide +kernel
theorem dX9_keep_9 : decode cX9_keep 9 = .ok (.ireturn, 1) := by decide +kernel
theorem dX9_back_0 : decode cX9_back 0 = .ok (.aload_n 0, 1) := by decide +kernel
theorem dX9_back_1 : decode cX9_back 1 = .ok (.getfield 67, 3) := by decide +kernel
theorem dX9_back_4 : decode cX9_back 4 = .ok (.iconst 1, 1) := by decide +kernel
theorem dX9_back_5 : decode cX9_back 5 = .ok (.iconst 3, 1) := by decide +kernel
theorem dX9_back_6 : decode cX9_back 6 = .ok (.invokestatic 99, 3) := by decide +kernel
theorem dX9_back_9 : decode cX9_back 9 = .ok (.ifCond .eq 6, 3) := by decide +kernel
theorem dX9_back_12 : decode cX9_back 12 = .ok (.bipush (-2), 2) := by decide +kernel
theorem dX9_back_14 : decode cX9_back 14 = .ok (.ireturn, 1) := by decide +kernel
theorem dX9_isOutside_0 : decode cX9_isOutside 0 = .ok (.iload_n 0, 1) := by decide +kernel
theorem dX9_isOutside_1 : decode cX9_isOutside 1 = .ok (.iload_n 1, 1) := by decide +kernel
theorem dX9_isOutside_2 : decode cX9_isOutside 2 = .ok (.if_icmp .lt 8, 3) := by decide +kernel
theorem dX9_isOutside_5 : decode cX9_isOutside 5 = .ok (.iload_n 0, 1) := by decide +kernel
theorem dX9_isOutside_6 : decode cX9_isOutside 6 = .ok (.iload_n 2, 1) := by decide +kernel
theorem dX9_isOutside_7 : decode cX9_isOutside 7 = .ok (.if_icmp .le 7, 3) := by decide +kernel
theorem dX9_isOutside_10 : decode cX9_isOutside 10 = .ok (.iconst 1, 1) := by decide +kernel
theorem dX9_isOutside_11 : decode cX9_isOutside 11 = .ok (.goto 4, 3) := by decide +kernel
theorem dX9_isOutside_14 : decode cX9_isOutside 14 = .ok (.iconst 0, 1) := by decide +kernel
theorem dX9_isOutside_15 : decode cX9_isOutside 15 = .ok (.ireturn, 1) := by decide +kernel
theorem dX9_isNoItem_0 : decode cX9_isNoItem 0 = .ok (.iload_n 0, 1) := by decide +kernel
theorem dX9_isNoItem_1 : decode cX9_isNoItem 1 = .ok (.ifCond .lt 9, 3) := by decide +kernel
theorem dX9_isNoItem_4 : decode cX9_isNoItem 4 = .ok (.iload_n 0, 1) := by decide +kernel
theorem dX9_isNoItem_5 : decode cX9_isNoItem 5 = .ok (.bipush 40, 2) := by decide +kernel
theorem dX9_isNoItem_7 : decode cX9_isNoItem 7 = .ok (.if_icmp .lt 7, 3) := by decide +kernel
theorem dX9_isNoItem_10 : decode cX9_isNoItem 10 = .ok (.iconst 1, 1) := by decide +kernel
theorem dX9_isNoItem_11 : decode cX9_isNoItem 11 = .ok (.goto 4, 3) := by decide +kernel
theorem dX9_isNoItem_14 : decode cX9_isNoItem 14 = .ok (.iconst 0, 1) := by decide +kernel
theorem dX9_isNoItem_15 : decode cX9_isNoItem 15 = .ok (.ireturn, 1) := by decide +kernel
theorem dX9_isNoStore_0 : decode cX9_isNoStore 0 = .ok (.iload_n 0, 1) := by decide +kernel
theorem dX9_isNoStore_1 : decode cX9_isNoStore 1 = .ok (.ifCond .lt 9, 3) := by decide +kernel
theorem dX9_isNoStore_4 : decode cX9_isNoStore 4 = .ok (.iload_n 0, 1) := by decide +kernel
theorem dX9_isNoStore_5 : decode cX9_isNoStore 5 = .ok (.bipush 16, 2) := by decide +kernel
theorem dX9_isNoStore_7 : decode cX9_isNoStore 7 = .ok (.if_icmp .lt 7, 3) := by decide +kernel
theorem dX9_isNoStore_10 : decode cX9_isNoStore 10 = .ok (.iconst 1, 1) := by decide +kernel
theorem dX9_isNoStore_11 : decode cX9_isNoStore 11 = .ok (.goto 4, 3) := by decide +kernel
theorem dX9_isNoStore_14 : decode cX9_isNoStore 14 = .ok (.iconst 0, 1) := by decide +kernel
theorem dX9_isNoStore_15 : decode cX9_isNoStore 15 = .ok (.ireturn, 1) := by decide +kernel
theorem dX9_isNoGate_0 : decode cX9_isNoGate 0 = .ok (.iload_n 0, 1) := by decide +kernel
theorem dX9_isNoGate_1 : decode cX9_isNoGate 1 = .ok (.ifCond .lt 8, 3) := by decide +kernel
theorem dX9_isNoGate_4 : decode cX9_isNoGate 4 = .ok (.iload_n 0, 1) := by decide +kernel
theorem dX9_isNoGate_5 : decode cX9_isNoGate 5 = .ok (.iconst 4, 1) := by decide +kernel
theorem dX9_isNoGate_6 : decode cX9_isNoGate 6 = .ok (.if_icmp .lt 7, 3) := by decide +kernel
theorem dX9_isNoGate_9 : decode cX9_isNoGate 9 = .ok (.iconst 1, 1) := by decide +kernel
theorem dX9_isNoGate_10 : decode cX9_isNoGate 10 = .ok (.goto 4, 3) := by decide +kernel
theorem dX9_isNoGate_13 : decode cX9_isNoGate 13 = .ok (.iconst 0, 1) := by decide +kernel
theorem dX9_isNoGate_14 : decode cX9_isNoGate 14 = .ok (.ireturn, 1) := by decide +kernel
theorem dX9_isNoGauge_0 : decode cX9_isNoGauge 0 = .ok (.iload_n 0, 1) := by decide +kernel
theorem dX9_isNoGauge_1 : decode cX9_isNoGauge 1 = .ok (.ifCond .lt 8, 3) := by decide +kernel
theorem dX9_isNoGauge_4 : decode cX9_isNoGauge 4 = .ok (.iload_n 0, 1) := by decide +kernel
theorem dX9_isNoGauge_5 : decode cX9_isNoGauge 5 = .ok (.iconst 4, 1) := by decide +kernel
theorem dX9_isNoGauge_6 : decode cX9_isNoGauge 6 = .ok (.if_icmp .lt 7, 3) := by decide +kernel
theorem dX9_isNoGauge_9 : decode cX9_isNoGauge 9 = .ok (.iconst 1, 1) := by decide +kernel
theorem dX9_isNoGauge_10 : decode cX9_isNoGauge 10 = .ok (.goto 4, 3) := by decide +kernel
theorem dX9_isNoGauge_13 : decode cX9_isNoGauge 13 = .ok (.iconst 0, 1) := by decide +kernel
theorem dX9_isNoGauge_14 : decode cX9_isNoGauge 14 = .ok (.ireturn, 1) := by decide +kernel
theorem dX9_isNoKnob_0 : decode cX9_isNoKnob 0 = .ok (.iload_n 0, 1) := by decide +kernel
theorem dX9_isNoKnob_1 : decode cX9_isNoKnob 1 = .ok (.ifCond .lt 8, 3) := by decide +kernel
theorem dX9_isNoKnob_4 : decode cX9_isNoKnob 4 = .ok (.iload_n 0, 1) := by decide +kernel
theorem dX9_isNoKnob_5 : decode cX9_isNoKnob 5 = .ok (.iconst 2, 1) := by decide +kernel
theorem dX9_isNoKnob_6 : decode cX9_isNoKnob 6 = .ok (.if_icmp .lt 7, 3) := by decide +kernel
theorem dX9_isNoKnob_9 : decode cX9_isNoKnob 9 = .ok (.iconst 1, 1) := by decide +kernel
theorem dX9_isNoKnob_10 : decode cX9_isNoKnob 10 = .ok (.goto 4, 3) := by decide +kernel
theorem dX9_isNoKnob_13 : decode cX9_isNoKnob 13 = .ok (.iconst 0, 1) := by decide +kernel
theorem dX9_isNoKnob_14 : decode cX9_isNoKnob 14 = .ok (.ireturn, 1) := by decide +kernel
theorem dX9_isNoWorld_0 : decode cX9_isNoWorld 0 = .ok (.iload_n 0, 1) := by decide +kernel
theorem dX9_isNoWorld_1 : decode cX9_isNoWorld 1 = .ok (.ifCond .lt 8, 3) := by decide +kernel
theorem dX9_isNoWorld_4 : decode cX9_isNoWorld 4 = .ok (.iload_n 0, 1) := by decide +kernel
theorem dX9_isNoWorld_5 : decode cX9_isNoWorld 5 = .ok (.iconst 4, 1) := by decide +kernel
theorem dX9_isNoWorld_6 : decode cX9_isNoWorld 6 = .ok (.if_icmp .lt 7, 3) := by decide +kernel
theorem dX9_isNoWorld_9 : decode cX9_isNoWorld 9 = .ok (.iconst 1, 1) := by decide +kernel
theorem dX9_isNoWorld_10 : decode cX9_isNoWorld 10 = .ok (.goto 4, 3) := by decide +kernel
theorem dX9_isNoWorld_13 : decode cX9_isNoWorld 13 = .ok (.iconst 0, 1) := by decide +kernel
theorem dX9_isNoWorld_14 : decode cX9_isNoWorld 14 = .ok (.ireturn, 1) := by decide +kernel
theorem dX9_lacksItem_0 : decode cX9_lacksItem 0 = .ok (.aload_n 0, 1) := by decide +kernel
theorem dX9_lacksItem_1 : decode cX9_lacksItem 1 = .ok (.getfield 29, 3) := by decide +kernel
theorem dX9_lacksItem_4 : decode cX9_lacksItem 4 = .ok (.ifCond .eq 14, 3) := by decide +kernel
theorem dX9_lacksItem_18 : decode cX9_lacksItem 18 = .ok (.iconst 1, 1) := by decide +kernel
theorem dX9_lacksItem_19 : decode cX9_lacksItem 19 = .ok (.goto 4, 3) := by decide +kernel
theorem dX9_lacksItem_23 : decode cX9_lacksItem 23 = .ok (.ireturn, 1) := by decide +kernel
theorem dX9_lacksStore_0 : decode cX9_lacksStore 0 = .ok (.aload_n 0, 1) := by decide +kernel
theorem dX9_lacksStore_1 : decode cX9_lacksStore 1 = .ok (.getfield 29, 3) := by decide +kernel
theorem dX9_lacksStore_4 : decode cX9_lacksStore 4 = .ok (.ifCond .eq 14, 3) := by decide +kernel
theorem dX9_lacksStore_18 : decode cX9_lacksStore 18 = .ok (.iconst 1, 1) := by decide +kernel
theorem dX9_lacksStore_19 : decode cX9_lacksStore 19 = .ok (.goto 4, 3) := by decide +kernel
theorem dX9_lacksStore_23 : decode cX9_lacksStore 23 = .ok (.ireturn, 1) := by decide +kernel
theorem dX9_lacksGate_0 : decode cX9_lacksGate 0 = .ok (.aload_n 0, 1) := by decide +kernel
theorem dX9_lacksGate_1 : decode cX9_lacksGate 1 = .ok (.getfield 29, 3) := by decide +kernel
theorem dX9_lacksGate_4 : decode cX9_lacksGate 4 = .ok (.ifCond .eq 14, 3) := by decide +kernel
theorem dX9_lacksGate_18 : decode cX9_lacksGate 18 = .ok (.iconst 1, 1) := by decide +kernel
theorem dX9_lacksGate_19 : decode cX9_lacksGate 19 = .ok (.goto 4, 3) := by decide +kernel
theorem dX9_lacksGate_23 : decode cX9_lacksGate 23 = .ok (.ireturn, 1) := by decide +kernel
theorem dX9_lacksGauge_0 : decode cX9_lacksGauge 0 = .ok (.aload_n 0, 1) := by decide +kernel
theorem dX9_lacksGauge_1 : decode cX9_lacksGauge 1 = .ok (.getfield 29, 3) := by decide +kernel
theorem dX9_lacksGauge_4 : decode cX9_lacksGauge 4 = .ok (.ifCond .eq 14, 3) := by decide +kernel
theorem dX9_lacksGauge_18 : decode cX9_lacksGauge 18 = .ok (.iconst 1, 1) := by decide +kernel
theorem dX9_lacksGauge_19 : decode cX9_lacksGauge 19 = .ok (.goto 4, 3) := by decide +kernel
theorem dX9_lacksGauge_23 : decode cX9_lacksGauge 23 = .ok (.ireturn, 1) := by decide +kernel
theorem dX10_in_0 : decode cX10_in 0 = .ok (.lload_n 0, 1) := by decide +kernel
theorem dX10_in_1 : decode cX10_in 1 = .ok (.lload_n 2, 1) := by decide +kernel
theorem dX10_in_2 : decode cX10_in 2 = .ok (.lcmp, 1) := by decide +kernel
theorem dX10_in_3 : decode cX10_in 3 = .ok (.ifCond .lt 14, 3) := by decide +kernel
theorem dX10_in_6 : decode cX10_in 6 = .ok (.lload_n 0, 1) := by decide +kernel
theorem dX10_in_7 : decode cX10_in 7 = .ok (.lload 4, 2) := by decide +kernel
theorem dX10_in_9 : decode cX10_in 9 = .ok (.lcmp, 1) := by decide +kernel
theorem dX10_in_10 : decode cX10_in 10 = .ok (.ifCond .gt 7, 3) := by decide +kernel
theorem dX10_in_13 : decode cX10_in 13 = .ok (.iconst 1, 1) := by decide +kernel
theorem dX10_in_14 : decode cX10_in 14 = .ok (.goto 4, 3) := by decide +kernel
theorem dX10_in_17 : decode cX10_in 17 = .ok (.iconst 0, 1) := by decide +kernel
theorem dX10_in_18 : decode cX10_in 18 = .ok (.ireturn, 1) := by decide +kernel
def uX9_isOutside : List Cond := .code yX9_isOutside cX9_isOutside 3 (some .boolean) :: ([])
set_option maxHeartbeats 4000000 in
set_option maxRecDepth 100000 in
theorem c_isOutside (l : Launch) (D : va_G) (t : Nat → Nat) (cI cL cC : ClassId) (gC : Int32) (gR : Int32) (v : Int32) (lo : Int32) (hi : Int32) (A B : Int) (hA : lo.toInt = A) (hB : hi.toInt = B) : tM l yX9_isOutside uX9_isOutside 0 0 D (fF cI cL cC gC gR) (fF cI cL cC gC gR) t cI cL cC [.int v, .int lo, .int hi] wr0 (pI (fun r => (r = 1 ∧ (v.toInt < A ∨ B < v.toInt)) ∨ (r = 0 ∧ A ≤ v.toInt ∧ v.toInt ≤ B))) := by
  refine tM.ofW (cc := cX9_isOutside) (maxL := 3) (ret := (some .boolean)) (by decide) rfl (Nat.le_of_ble_eq_true rfl) ?_
  intro p e s m below meth c hx hb hr hml hown hts hlk H locs hG hK hE hS ls hl
  have hl : lv_has ls 3 [(0, .int v), (1, .int lo), (2, .int hi)] := hl
  skip
  refine lv_iload_n hx hb dX9_isOutside_0 rfl (lv_at hl 0 rfl) ?_
  refine lv_iload_n hx hb dX9_isOutside_1 rfl (lv_at hl 1 rfl) ?_
  refine lv_icmp_lt (tgt := 10) hx hb dX9_isOutside_2 (by decide) (fun c_1 => ?_) (fun c_1 => ?_)
  · skip
    have c_1 : v.toInt < lo.toInt := q_lt c_1
    refine lv_iconst (v := 1) hx hb dX9_isOutside_10 (by decide) ?_
    refine lv_goto (tgt := 15) hx hb dX9_isOutside_11 (by decide) ?_
    exact ty_zret hx hb hr hlk rfl hG hS (by first | exact Or.inl ⟨rfl, by omega⟩ | exact Or.inr ⟨rfl, by omega⟩ | exact Or.inr (Or.inl ⟨rfl, by omega⟩) | exact Or.inr (Or.inr ⟨rfl, by omega⟩) | exact ⟨rfl, by omega⟩ | omega | trivial | rfl | (exfalso; omega)) dX9_isOutside_15
  · skip
    have c_1 : lo.toInt ≤ v.toInt := q_nlt c_1
    refine lv_iload_n hx hb dX9_isOutside_5 rfl (lv_at hl 0 rfl) ?_
    refine lv_pc (pc2 := 6) rfl ?_
    refine lv_iload_n hx hb dX9_isOutside_6 rfl (lv_at hl 2 rfl) ?_
    refine lv_icmp_le (tgt := 14) hx hb dX9_isOutside_7 (by decide) (fun c_2 => ?_) (fun c_2 => ?_)
    · skip
      have c_2 : v.toInt ≤ hi.toInt := q_le c_2
      refine lv_iconst (v := 0) hx hb dX9_isOutside_14 (by decide) ?_
      exact ty_zret hx hb hr hlk rfl hG hS (by first | exact Or.inl ⟨rfl, by omega⟩ | exact Or.inr ⟨rfl, by omega⟩ | exact Or.inr (Or.inl ⟨rfl, by omega⟩) | exact Or.inr (Or.inr ⟨rfl, by omega⟩) | exact ⟨rfl, by omega⟩ | omega | trivial | rfl | (exfalso; omega)) dX9_isOutside_15
    · skip
      have c_2 : hi.toInt < v.toInt := q_nle c_2
      refine lv_iconst (v := 1) hx hb dX9_isOutside_10 (by decide) ?_
      refine lv_goto (tgt := 15) hx hb dX9_isOutside_11 (by decide) ?_
      exact ty_zret hx hb hr hlk rfl hG hS (by first | exact Or.inl ⟨rfl, by omega⟩ | exact Or.inr ⟨rfl, by omega⟩ | exact Or.inr (Or.inl ⟨rfl, by omega⟩) | exact Or.inr (Or.inr ⟨rfl, by omega⟩) | exact ⟨rfl, by omega⟩ | omega | trivial | rfl | (exfalso; omega)) dX9_isOutside_15

def uX9_isNoItem : List Cond := .code yX9_isNoItem cX9_isNoItem 1 (some .boolean) :: ([])
set_option maxHeartbeats 4000000 in
set_option maxRecDepth 100000 in
theorem c_isNoItem (l : Launch) (D : va_G) (t : Nat → Nat) (cI cL cC : ClassId) (gC : Int32) (gR : Int32) (v : Int32) : tM l yX9_isNoItem uX9_isNoItem 0 0 D (fF cI cL cC gC gR) (fF cI cL cC gC gR) t cI cL cC [.int v] wr0 (pI (fun r => (r = 1 ∧ (v.toInt < 0 ∨ 39 < v.toInt)) ∨ (r = 0 ∧ 0 ≤ v.toInt ∧ v.toInt ≤ 39))) := by
  refine tM.ofW (cc := cX9_isNoItem) (maxL := 1) (ret := (some .boolean)) (by decide) rfl (Nat.le_of_ble_eq_true rfl) ?_
  intro p e s m below meth c hx hb hr hml hown hts hlk H locs hG hK hE hS ls hl
  have hl : lv_has ls 1 [(0, .int v)] := hl
  skip
  refine lv_iload_n hx hb dX9_isNoItem_0 rfl (lv_at hl 0 rfl) ?_
  refine lv_if_lt (tgt := 10) hx hb dX9_isNoItem_1 (by decide) (fun c_1 => ?_) (fun c_1 => ?_)
  · skip
    have c_1 : v.toInt < 0 := q_lt c_1
    refine lv_iconst (v := 1) hx hb dX9_isNoItem_10 (by decide) ?_
    refine lv_goto (tgt := 15) hx hb dX9_isNoItem_11 (by decide) ?_
    exact ty_zret hx hb hr hlk rfl hG hS (by first | exact Or.inl ⟨rfl, by omega⟩ | exact Or.inr ⟨rfl, by omega⟩ | exact Or.inr (Or.inl ⟨rfl, by omega⟩) | exact Or.inr (Or.inr ⟨rfl, by omega⟩) | exact ⟨rfl, by omega⟩ | omega | trivial | rfl | (exfalso; omega)) dX9_isNoItem_15
  · skip
    have c_1 : 0 ≤ v.toInt := q_nlt c_1
    refine lv_iload_n hx hb dX9_isNoItem_4 rfl (lv_at hl 0 rfl) ?_
    refine lv_bipush (v := 40) hx hb dX9_isNoItem_5 (by decide) ?_
    refine lv_pc (pc2 := 7) rfl ?_
    refine lv_icmp_lt (tgt := 14) hx hb dX9_isNoItem_7 (by decide) (fun c_2 => ?_) (fun c_2 => ?_)
    · skip
      have c_2 : v.toInt < 40 := q_lt c_2
      refine lv_iconst (v := 0) hx hb dX9_isNoItem_14 (by decide) ?_
      exact ty_zret hx hb hr hlk rfl hG hS (by first | exact Or.inl ⟨rfl, by omega⟩ | exact Or.inr ⟨rfl, by omega⟩ | exact Or.inr (Or.inl ⟨rfl, by omega⟩) | exact Or.inr (Or.inr ⟨rfl, by omega⟩) | exact ⟨rfl, by omega⟩ | omega | trivial | rfl | (exfalso; omega)) dX9_isNoItem_15
    · skip
      have c_2 : 40 ≤ v.toInt := q_nlt c_2
      refine lv_iconst (v := 1) hx hb dX9_isNoItem_10 (by decide) ?_
      refine lv_goto (tgt := 15) hx hb dX9_isNoItem_11 (by decide) ?_
      exact ty_zret hx hb hr hlk rfl hG hS (by first | exact Or.inl ⟨rfl, by omega⟩ | exact Or.inr ⟨rfl, by omega⟩ | exact Or.inr (Or.inl ⟨rfl, by omega⟩) | exact Or.inr (Or.inr ⟨rfl, by omega⟩) | exact ⟨rfl, by omega⟩ | omega | trivial | rfl | (exfalso; omega)) dX9_isNoItem_15

def uX9_isNoStore : List Cond := .code yX9_isNoStore cX9_isNoStore 1 (some .boolean) :: ([])
set_option maxHeartbeats 4000000 in
set_option maxRecDepth 100000 in
theorem c_isNoStore (l : Launch) (D : va_G) (t : Nat → Nat) (cI cL cC : ClassId) (gC : Int32) (gR : Int32) (v : Int32) : tM l yX9_isNoStore uX9_isNoStore 0 0 D (fF cI cL cC gC gR) (fF cI cL cC gC gR) t cI cL cC [.int v] wr0 (pI (fun r => (r = 1 ∧ (v.toInt < 0 ∨ 15 < v.toInt)) ∨ (r = 0 ∧ 0 ≤ v.toInt ∧ v.toInt ≤ 15))) := by
  refine tM.ofW (cc := cX9_isNoStore) (maxL := 1) (ret := (some .boolean)) (by decide) rfl (Nat.le_of_ble_eq_true rfl) ?_
  intro p e s m below meth c hx hb hr hml hown hts hlk H locs hG hK hE hS ls hl
  have hl : lv_has ls 1 [(0, .int v)] := hl
  skip
  refine lv_iload_n hx hb dX9_isNoStore_0 rfl (lv_at hl 0 rfl) ?_
  refine lv_if_lt (tgt := 10) hx hb dX9_isNoStore_1 (by decide) (fun c_1 => ?_) (fun c_1 => ?_)
  · skip
    have c_1 : v.toInt < 0 := q_lt c_1
    refine lv_iconst (v := 1) hx hb dX9_isNoStore_10 (by decide) ?_
    refine lv_goto (tgt := 15) hx hb dX9_isNoStore_11 (by decide) ?_
    exact ty_zret hx hb hr hlk rfl hG hS (by first | exact Or.inl ⟨rfl, by omega⟩ | exact Or.inr ⟨rfl, by omega⟩ | exact Or.inr (Or.inl ⟨rfl, by omega⟩) | exact Or.inr (Or.inr ⟨rfl, by omega⟩) | exact ⟨rfl, by omega⟩ | omega | trivial | rfl | (exfalso; omega)) dX9_isNoStore_15
  · skip
    have c_1 : 0 ≤ v.toInt := q_nlt c_1
    refine lv_iload_n hx hb dX9_isNoStore_4 rfl (lv_at hl 0 rfl) ?_
    refine lv_bipush (v := 16) hx hb dX9_isNoStore_5 (by decide) ?_
    refine lv_pc (pc2 := 7) rfl ?_
    refine lv_icmp_lt (tgt := 14) hx hb dX9_isNoStore_7 (by decide) (fun c_2 => ?_) (fun c_2 => ?_)
    · skip
      have c_2 : v.toInt < 16 := q_lt c_2
      refine lv_iconst (v := 0) hx hb dX9_isNoStore_14 (by decide) ?_
      exact ty_zret hx hb hr hlk rfl hG hS (by first | exact Or.inl ⟨rfl, by omega⟩ | exact Or.inr ⟨rfl, by omega⟩ | exact Or.inr (Or.inl ⟨rfl, by omega⟩) | exact Or.inr (Or.inr ⟨rfl, by omega⟩) | exact ⟨rfl, by omega⟩ | omega | trivial | rfl | (exfalso; omega)) dX9_isNoStore_15
    · skip
      have c_2 : 16 ≤ v.toInt := q_nlt c_2
      refine lv_iconst (v := 1) hx hb dX9_isNoStore_10 (by decide) ?_
      refine lv_goto (tgt := 15) hx hb dX9_isNoStore_11 (by decide) ?_
      exact ty_zret hx hb hr hlk rfl hG hS (by first | exact Or.inl ⟨rfl, by omega⟩ | exact Or.inr ⟨rfl, by omega⟩ | exact Or.inr (Or.inl ⟨rfl, by omega⟩) | exact Or.inr (Or.inr ⟨rfl, by omega⟩) | exact ⟨rfl, by omega⟩ | omega | trivial | rfl | (exfalso; omega)) dX9_isNoStore_15

def uX9_isNoGate : List Cond := .code yX9_isNoGate cX9_isNoGate 1 (some .boolean) :: ([])
set_option maxHeartbeats 4000000 in
set_option maxRecDepth 100000 in
theorem c_isNoGate (l : Launch) (D : va_G) (t : Nat → Nat) (cI cL cC : ClassId) (gC : Int32) (gR : Int32) (v : Int32) : tM l yX9_isNoGate uX9_isNoGate 0 0 D (fF cI cL cC gC gR) (fF cI cL cC gC gR) t cI cL cC [.int v] wr0 (pI (fun r => (r = 1 ∧ (v.toInt < 0 ∨ 3 < v.toInt)) ∨ (r = 0 ∧ 0 ≤ v.toInt ∧ v.toInt ≤ 3))) := by
  refine tM.ofW (cc := cX9_isNoGate) (maxL := 1) (ret := (some .boolean)) (by decide) rfl (Nat.le_of_ble_eq_true rfl) ?_
  intro p e s m below meth c hx hb hr hml hown hts hlk H locs hG hK hE hS ls hl
  have hl : lv_has ls 1 [(0, .int v)] := hl
  skip
  refine lv_iload_n hx hb dX9_isNoGate_0 rfl (lv_at hl 0 rfl) ?_
  refine lv_if_lt (tgt := 9) hx hb dX9_isNoGate_1 (by decide) (fun c_1 => ?_) (fun c_1 => ?_)
  · skip
    have c_1 : v.toInt < 0 := q_lt c_1
    refine lv_iconst (v := 1) hx hb dX9_isNoGate_9 (by decide) ?_
    refine lv_goto (tgt := 14) hx hb dX9_isNoGate_10 (by decide) ?_
    exact ty_zret hx hb hr hlk rfl hG hS (by first | exact Or.inl ⟨rfl, by omega⟩ | exact Or.inr ⟨rfl, by omega⟩ | exact Or.inr (Or.inl ⟨rfl, by omega⟩) | exact Or.inr (Or.inr ⟨rfl, by omega⟩) | exact ⟨rfl, by omega⟩ | omega | trivial | rfl | (exfalso; omega)) dX9_isNoGate_14
  · skip
    have c_1 : 0 ≤ v.toInt := q_nlt c_1
    refine lv_iload_n hx hb dX9_isNoGate_4 rfl (lv_at hl 0 rfl) ?_
    refine lv_iconst (v := 4) hx hb dX9_isNoGate_5 (by decide) ?_
    refine lv_pc (pc2 := 6) rfl ?_
    refine lv_icmp_lt (tgt := 13) hx hb dX9_isNoGate_6 (by decide) (fun c_2 => ?_) (fun c_2 => ?_)
    · skip
      have c_2 : v.toInt < 4 := q_lt c_2
      refine lv_iconst (v := 0) hx hb dX9_isNoGate_13 (by decide) ?_
      exact ty_zret hx hb hr hlk rfl hG hS (by first | exact Or.inl ⟨rfl, by omega⟩ | exact Or.inr ⟨rfl, by omega⟩ | exact Or.inr (Or.inl ⟨rfl, by omega⟩) | exact Or.inr (Or.inr ⟨rfl, by omega⟩) | exact ⟨rfl, by omega⟩ | omega | trivial | rfl | (exfalso; omega)) dX9_isNoGate_14
    · skip
      have c_2 : 4 ≤ v.toInt := q_nlt c_2
      refine lv_iconst (v := 1) hx hb dX9_isNoGate_9 (by decide) ?_
      refine lv_goto (tgt := 14) hx hb dX9_isNoGate_10 (by decide) ?_
      exact ty_zret hx hb hr hlk rfl hG hS (by first | exact Or.inl ⟨rfl, by omega⟩ | exact Or.inr ⟨rfl, by omega⟩ | exact Or.inr (Or.inl ⟨rfl, by omega⟩) | exact Or.inr (Or.inr ⟨rfl, by omega⟩) | exact ⟨rfl, by omega⟩ | omega | trivial | rfl | (exfalso; omega)) dX9_isNoGate_14

def uX9_isNoGauge : List Cond := .code yX9_isNoGauge cX9_isNoGauge 1 (some .boolean) :: ([])
set_option maxHeartbeats 4000000 in
set_option maxRecDepth 100000 in
theorem c_isNoGauge (l : Launch) (D : va_G) (t : Nat → Nat) (cI cL cC : ClassId) (gC : Int32) (gR : Int32) (v : Int32) : tM l yX9_isNoGauge uX9_isNoGauge 0 0 D (fF cI cL cC gC gR) (fF cI cL cC gC gR) t cI cL cC [.int v] wr0 (pI (fun r => (r = 1 ∧ (v.toInt < 0 ∨ 3 < v.toInt)) ∨ (r = 0 ∧ 0 ≤ v.toInt ∧ v.toInt ≤ 3))) := by
  refine tM.ofW (cc := cX9_isNoGauge) (maxL := 1) (ret := (some .boolean)) (by decide) rfl (Nat.le_of_ble_eq_true rfl) ?_
  intro p e s m below meth c hx hb hr hml hown hts hlk H locs hG hK hE hS ls hl
  have hl : lv_has ls 1 [(0, .int v)] := hl
  skip
  refine lv_iload_n hx hb dX9_isNoGauge_0 rfl (lv_at hl 0 rfl) ?_
  refine lv_if_lt (tgt := 9) hx hb dX9_isNoGauge_1 (by decide) (fun c_1 => ?_) (fun c_1 => ?_)
  · skip
    have c_1 : v.toInt < 0 := q_lt c_1
    refine lv_iconst (v := 1) hx hb dX9_isNoGauge_9 (by decide) ?_
    refine lv_goto (tgt := 14) hx hb dX9_isNoGauge_10 (by decide) ?_
    exact ty_zret hx hb hr hlk rfl hG hS (by first | exact Or.inl ⟨rfl, by omega⟩ | exact Or.inr ⟨rfl, by omega⟩ | exact Or.inr (Or.inl ⟨rfl, by omega⟩) | exact Or.inr (Or.inr ⟨rfl, by omega⟩) | exact ⟨rfl, by omega⟩ | omega | trivial | rfl | (exfalso; omega)) dX9_isNoGauge_14
  · skip
    have c_1 : 0 ≤ v.toInt := q_nlt c_1
    refine lv_iload_n hx hb dX9_isNoGauge_4 rfl (lv_at hl 0 rfl) ?_
    refine lv_iconst (v := 4) hx hb dX9_isNoGauge_5 (by decide) ?_
    refine lv_pc (pc2 := 6) rfl ?_
    refine lv_icmp_lt (tgt := 13) hx hb dX9_isNoGauge_6 (by decide) (fun c_2 => ?_) (fun c_2 => ?_)
    · skip
      have c_2 : v.toInt < 4 := q_lt c_2
      refine lv_iconst (v := 0) hx hb dX9_isNoGauge_13 (by decide) ?_
      exact ty_zret hx hb hr hlk rfl hG hS (by first | exact Or.inl ⟨rfl, by omega⟩ | exact Or.inr ⟨rfl, by omega⟩ | exact Or.inr (Or.inl ⟨rfl, by omega⟩) | exact Or.inr (Or.inr ⟨rfl, by omega⟩) | exact ⟨rfl, by omega⟩ | omega | trivial | rfl | (exfalso; omega)) dX9_isNoGauge_14
    · skip
      have c_2 : 4 ≤ v.toInt := q_nlt c_2
      refine lv_iconst (v := 1) hx hb dX9_isNoGauge_9 (by decide) ?_
      refine lv_goto (tgt := 14) hx hb dX9_isNoGauge_10 (by decide) ?_
      exact ty_zret hx hb hr hlk rfl hG hS (by first | exact Or.inl ⟨rfl, by omega⟩ | exact Or.inr ⟨rfl, by omega⟩ | exact Or.inr (Or.inl ⟨rfl, by omega⟩) | exact Or.inr (Or.inr ⟨rfl, by omega⟩) | exact ⟨rfl, by omega⟩ | omega | trivial | rfl | (exfalso; omega)) dX9_isNoGauge_14

def uX9_isNoKnob : List Cond := .code yX9_isNoKnob cX9_isNoKnob 1 (some .boolean) :: ([])
set_option maxHeartbeats 4000000 in
set_option maxRecDepth 100000 in
theorem c_isNoKnob (l : Launch) (D : va_G) (t : Nat → Nat) (cI cL cC : ClassId) (gC : Int32) (gR : Int32) (v : Int32) : tM l yX9_isNoKnob uX9_isNoKnob 0 0 D (fF cI cL cC gC gR) (fF cI cL cC gC gR) t cI cL cC [.int v] wr0 (pI (fun r => (r = 1 ∧ (v.toInt < 0 ∨ 1 < v.toInt)) ∨ (r = 0 ∧ 0 ≤ v.toInt ∧ v.toInt ≤ 1))) := by
  refine tM.ofW (cc := cX9_isNoKnob) (maxL := 1) (ret := (some .boolean)) (by decide) rfl (Nat.le_of_ble_eq_true rfl) ?_
  intro p e s m below meth c hx hb hr hml hown hts hlk H locs hG hK hE hS ls hl
  have hl : lv_has ls 1 [(0, .int v)] := hl
  skip
  refine lv_iload_n hx hb dX9_isNoKnob_0 rfl (lv_at hl 0 rfl) ?_
  refine lv_if_lt (tgt := 9) hx hb dX9_isNoKnob_1 (by decide) (fun c_1 => ?_) (fun c_1 => ?_)
  · skip
    have c_1 : v.toInt < 0 := q_lt c_1
    refine lv_iconst (v := 1) hx hb dX9_isNoKnob_9 (by decide) ?_
    refine lv_goto (tgt := 14) hx hb dX9_isNoKnob_10 (by decide) ?_
    exact ty_zret hx hb hr hlk rfl hG hS (by first | exact Or.inl ⟨rfl, by omega⟩ | exact Or.inr ⟨rfl, by omega⟩ | exact Or.inr (Or.inl ⟨rfl, by omega⟩) | exact Or.inr (Or.inr ⟨rfl, by omega⟩) | exact ⟨rfl, by omega⟩ | omega | trivial | rfl | (exfalso; omega)) dX9_isNoKnob_14
  · skip
    have c_1 : 0 ≤ v.toInt := q_nlt c_1
    refine lv_iload_n hx hb dX9_isNoKnob_4 rfl (lv_at hl 0 rfl) ?_
    refine lv_iconst (v := 2) hx hb dX9_isNoKnob_5 (by decide) ?_
    refine lv_pc (pc2 := 6) rfl ?_
    refine lv_icmp_lt (tgt := 13) hx hb dX9_isNoKnob_6 (by decide) (fun c_2 => ?_) (fun c_2 => ?_)
    · skip
      have c_2 : v.toInt < 2 := q_lt c_2
      refine lv_iconst (v := 0) hx hb dX9_isNoKnob_13 (by decide) ?_
      exact ty_zret hx hb hr hlk rfl hG hS (by first | exact Or.inl ⟨rfl, by omega⟩ | exact Or.inr ⟨rfl, by omega⟩ | exact Or.inr (Or.inl ⟨rfl, by omega⟩) | exact Or.inr (Or.inr ⟨rfl, by omega⟩) | exact ⟨rfl, by omega⟩ | omega | trivial | rfl | (exfalso; omega)) dX9_isNoKnob_14
    · skip
      have c_2 : 2 ≤ v.toInt := q_nlt c_2
      refine lv_iconst (v := 1) hx hb dX9_isNoKnob_9 (by decide) ?_
      refine lv_goto (tgt := 14) hx hb dX9_isNoKnob_10 (by decide) ?_
      exact ty_zret hx hb hr hlk rfl hG hS (by first | exact Or.inl ⟨rfl, by omega⟩ | exact Or.inr ⟨rfl, by omega⟩ | exact Or.inr (Or.inl ⟨rfl, by omega⟩) | exact Or.inr (Or.inr ⟨rfl, by omega⟩) | exact ⟨rfl, by omega⟩ | omega | trivial | rfl | (exfalso; omega)) dX9_isNoKnob_14

def uX9_isNoWorld : List Cond := .code yX9_isNoWorld cX9_isNoWorld 1 (some .boolean) :: ([])
set_option maxHeartbeats 4000000 in
set_option maxRecDepth 100000 in
theorem c_isNoWorld (l : Launch) (D : va_G) (t : Nat → Nat) (cI cL cC : ClassId) (gC : Int32) (gR : Int32) (v : Int32) : tM l yX9_isNoWorld uX9_isNoWorld 0 0 D (fF cI cL cC gC gR) (fF cI cL cC gC gR) t cI cL cC [.int v] wr0 (pI (fun r => (r = 1 ∧ (v.toInt < 0 ∨ 3 < v.toInt)) ∨ (r = 0 ∧ 0 ≤ v.toInt ∧ v.toInt ≤ 3))) := by
  refine tM.ofW (cc := cX9_isNoWorld) (maxL := 1) (ret := (some .boolean)) (by decide) rfl (Nat.le_of_ble_eq_true rfl) ?_
  intro p e s m below meth c hx hb hr hml hown hts hlk H locs hG hK hE hS ls hl
  have hl : lv_has ls 1 [(0, .int v)] := hl
  skip
  refine lv_iload_n hx hb dX9_isNoWorld_0 rfl (lv_at hl 0 rfl) ?_
  refine lv_if_lt (tgt := 9) hx hb dX9_isNoWorld_1 (by decide) (fun c_1 => ?_) (fun c_1 => ?_)
  · skip
    have c_1 : v.toInt < 0 := q_lt c_1
    refine lv_iconst (v := 1) hx hb dX9_isNoWorld_9 (by decide) ?_
    refine lv_goto (tgt := 14) hx hb dX9_isNoWorld_10 (by decide) ?_
    exact ty_zret hx hb hr hlk rfl hG hS (by first | exact Or.inl ⟨rfl, by omega⟩ | exact Or.inr ⟨rfl, by omega⟩ | exact Or.inr (Or.inl ⟨rfl, by omega⟩) | exact Or.inr (Or.inr ⟨rfl, by omega⟩) | exact ⟨rfl, by omega⟩ | omega | trivial | rfl | (exfalso; omega)) dX9_isNoWorld_14
  · skip
    have c_1 : 0 ≤ v.toInt := q_nlt c_1
    refine lv_iload_n hx hb dX9_isNoWorld_4 rfl (lv_at hl 0 rfl) ?_
    refine lv_iconst (v := 4) hx hb dX9_isNoWorld_5 (by decide) ?_
    refine lv_pc (pc2 := 6) rfl ?_
    refine lv_icmp_lt (tgt := 13) hx hb dX9_isNoWorld_6 (by decide) (fun c_2 => ?_) (fun c_2 => ?_)
    · skip
      have c_2 : v.toInt < 4 := q_lt c_2
      refine lv_iconst (v := 0) hx hb dX9_isNoWorld_13 (by decide) ?_
      exact ty_zret hx hb hr hlk rfl hG hS (by first | exact Or.inl ⟨rfl, by omega⟩ | exact Or.inr ⟨rfl, by omega⟩ | exact Or.inr (Or.inl ⟨rfl, by omega⟩) | exact Or.inr (Or.inr ⟨rfl, by omega⟩) | exact ⟨rfl, by omega⟩ | omega | trivial | rfl | (exfalso; omega)) dX9_isNoWorld_14
    · skip
      have c_2 : 4 ≤ v.toInt := q_nlt c_2
      refine lv_iconst (v := 1) hx hb dX9_isNoWorld_9 (by decide) ?_
      refine lv_goto (tgt := 14) hx hb dX9_isNoWorld_10 (by decide) ?_
      exact ty_zret hx hb hr hlk rfl hG hS (by first | exact Or.inl ⟨rfl, by omega⟩ | exact Or.inr ⟨rfl, by omega⟩ | exact Or.inr (Or.inl ⟨rfl, by omega⟩) | exact Or.inr (Or.inr ⟨rfl, by omega⟩) | exact ⟨rfl, by omega⟩ | omega | trivial | rfl | (exfalso; omega)) dX9_isNoWorld_14

def uX10_in : List Cond := .code yX10_in cX10_in 6 (some .boolean) :: ([])
set_option maxHeartbeats 4000000 in
set_option maxRecDepth 100000 in
theorem c_in (l : Launch) (D : va_G) (t : Nat → Nat) (cI cL cC : ClassId) (gC : Int32) (gR : Int32) (v : Int64) (lo : Int64) (hi : Int64) (X A B : Int) (hX : v.toInt = X) (hA : lo.toInt = A) (hB : hi.toInt = B) : tM l yX10_in uX10_in 0 0 D (fF cI cL cC gC gR) (fF cI cL cC gC gR) t cI cL cC [.long v, .long lo, .long hi] wr0 (pI (fun r => (r = 1 ∧ A ≤ X ∧ X ≤ B) ∨ (r = 0 ∧ (X < A ∨ B < X)))) := by
  refine tM.ofW (cc := cX10_in) (maxL := 6) (ret := (some .boolean)) (by decide) rfl (Nat.le_of_ble_eq_true rfl) ?_
  intro p e s m below meth c hx hb hr hml hown hts hlk H locs hG hK hE hS ls hl
  have hl : lv_has ls 6 [(0, .long v), (2, .long lo), (4, .long hi)] := hl
  skip
  refine lv_lload_n hx hb dX10_in_0 rfl (lv_at hl 0 rfl) ?_
  refine lv_lload_n hx hb dX10_in_1 rfl (lv_at hl 1 rfl) ?_
  refine W.lcmp hx hb dX10_in_2 ?_
  refine lv_if_lt (tgt := 17) hx hb dX10_in_3 (by decide) (fun c_1 => ?_) (fun c_1 => ?_)
  · skip
    have c_1 : v.toInt < lo.toInt := q_cmp_lt c_1
    refine lv_iconst (v := 0) hx hb dX10_in_17 (by decide) ?_
    exact ty_zret hx hb hr hlk rfl hG hS (by first | exact Or.inl ⟨rfl, by omega⟩ | exact Or.inr ⟨rfl, by omega⟩ | exact Or.inr (Or.inl ⟨rfl, by omega⟩) | exact Or.inr (Or.inr ⟨rfl, by omega⟩) | exact ⟨rfl, by omega⟩ | omega | trivial | rfl | (exfalso; omega)) dX10_in_18
  · skip
    have c_1 : lo.toInt ≤ v.toInt := q_cmp_nlt c_1
    refine lv_lload_n hx hb dX10_in_6 rfl (lv_at hl 0 rfl) ?_
    refine lv_pc (pc2 := 7) rfl ?_
    refine lv_lload hx hb dX10_in_7 (lv_at hl 2 rfl) ?_
    refine W.lcmp hx hb dX10_in_9 ?_
    refine lv_if_gt (tgt := 17) hx hb dX10_in_10 (by decide) (fun c_2 => ?_) (fun c_2 => ?_)
    · skip
      have c_2 : hi.toInt < v.toInt := q_cmp_gt c_2
      refine lv_iconst (v := 0) hx hb dX10_in_17 (by decide) ?_
      exact ty_zret hx hb hr hlk rfl hG hS (by first | exact Or.inl ⟨rfl, by omega⟩ | exact Or.inr ⟨rfl, by omega⟩ | exact Or.inr (Or.inl ⟨rfl, by omega⟩) | exact Or.inr (Or.inr ⟨rfl, by omega⟩) | exact ⟨rfl, by omega⟩ | omega | trivial | rfl | (exfalso; omega)) dX10_in_18
    · skip
      have c_2 : v.toInt ≤ hi.toInt := q_cmp_ngt c_2
      refine lv_iconst (v := 1) hx hb dX10_in_13 (by decide) ?_
      refine lv_goto (tgt := 18) hx hb dX10_in_14 (by decide) ?_
      exact ty_zret hx hb hr hlk rfl hG hS (by first | exact Or.inl ⟨rfl, by omega⟩ | exact Or.inr ⟨rfl, by omega⟩ | exact Or.inr (Or.inl ⟨rfl, by omega⟩) | exact Or.inr (Or.inr ⟨rfl, by omega⟩) | exact ⟨rfl, by omega⟩ | omega | trivial | rfl | (exfalso; omega)) dX10_in_18

def uX9_lacksItem : List Cond := .code yX9_lacksItem cX9_lacksItem 2 (some .boolean) :: ([.fieldLink RX9 29 "RiverModel" "isBuilt" "Z"] ++ wsX90)
set_option maxHeartbeats 4000000 in
set_option maxRecDepth 100000 in
theorem c_X9_lacksItem (l : Launch) (D : va_G) (t : Nat → Nat) (cI cL cC : ClassId) (a0 : Nat) (a1 : Int32) (k_a0 : t a0 = 1) : tM l yX9_lacksItem uX9_lacksItem 0 0 D (fF cI cL cC 0 0) (fF cI cL cC 0 0) t cI cL cC [.ref a0, .int a1] wr0 (pI (fun r => r = 1)) := by
  refine tM.ofW (cc := cX9_lacksItem) (maxL := 2) (ret := (some .boolean)) (by decide) rfl (Nat.le_of_ble_eq_true rfl) ?_
  intro p e s m below meth c hx hb hr hml hown hts hlk H locs hG hK hE hS ls hl
  have hl : lv_has ls 2 [(0, .ref a0), (1, .int a1)] := hl
  have in9 : ∀ w ∈ wsX90, w ∈ uX9_lacksItem := fun w h => List.mem_cons_of_mem _ (List.mem_append_right _ h)
  refine lv_aload_n hx hb dX9_lacksItem_0 rfl (lv_at hl 0 rfl) ?_
  obtain ⟨r_1, r_3, r_5, r_7, r_9, r_11, r_13, r_15, r_17, r_19, r_21, r_23, r_25, r_27, r_29, at_31, h_2, h_4, h_6, h_8, h_10, h_12, h_14, h_16, h_18, h_20, h_22, h_24, h_26, h_28, h_30⟩ := fF_o1 hG k_a0
  refine va_get (D := D) (ci := 8) (v := .int 0) (C := RX9) (T := TX9) (N := 18) hx hb hts in9 hown hK (va_one at_31) 0 rfl rfl 4 (by decide) (hts (.fieldLink RX9 29 "RiverModel" "isBuilt" "Z") (List.mem_of_getElem? (i := 1) rfl)) (fun _ h9 => h9) rfl dX9_lacksItem_1 ?_
  refine lv_if_eq (tgt := 18) hx hb dX9_lacksItem_4 (by decide) (fun _ => ?_) (fun q => absurd (by decide) q)
  refine lv_iconst (v := 1) hx hb dX9_lacksItem_18 (by decide) ?_
  refine lv_goto (tgt := 23) hx hb dX9_lacksItem_19 (by decide) ?_
  exact ty_zret hx hb hr hlk rfl hG hS (by first | exact Or.inl ⟨rfl, by omega⟩ | exact Or.inr ⟨rfl, by omega⟩ | exact Or.inr (Or.inl ⟨rfl, by omega⟩) | exact Or.inr (Or.inr ⟨rfl, by omega⟩) | exact ⟨rfl, by omega⟩ | omega | trivial | rfl | (exfalso; omega)) dX9_lacksItem_23

def uX9_lacksStore : List Cond := .code yX9_lacksStore cX9_lacksStore 2 (some .boolean) :: ([.fieldLink RX9 29 "RiverModel" "isBuilt" "Z"] ++ wsX90)
set_option maxHeartbeats 4000000 in
set_option maxRecDepth 100000 in
theorem c_X9_lacksStore (l : Launch) (D : va_G) (t : Nat → Nat) (cI cL cC : ClassId) (a0 : Nat) (a1 : Int32) (k_a0 : t a0 = 1) : tM l yX9_lacksStore uX9_lacksStore 0 0 D (fF cI cL cC 0 0) (fF cI cL cC 0 0) t cI cL cC [.ref a0, .int a1] wr0 (pI (fun r => r = 1)) := by
  refine tM.ofW (cc := cX9_lacksStore) (maxL := 2) (ret := (some .boolean)) (by decide) rfl (Nat.le_of_ble_eq_true rfl) ?_
  intro p e s m below meth c hx hb hr hml hown hts hlk H locs hG hK hE hS ls hl
  have hl : lv_has ls 2 [(0, .ref a0), (1, .int a1)] := hl
  have in9 : ∀ w ∈ wsX90, w ∈ uX9_lacksStore := fun w h => List.mem_cons_of_mem _ (List.mem_append_right _ h)
  refine lv_aload_n hx hb dX9_lacksStore_0 rfl (lv_at hl 0 rfl) ?_
  obtain ⟨r_1, r_3, r_5, r_7, r_9, r_11, r_13, r_15, r_17, r_19, r_21, r_23, r_25, r_27, r_29, at_31, h_2, h_4, h_6, h_8, h_10, h_12, h_14, h_16, h_18, h_20, h_22, h_24, h_26, h_28, h_30⟩ := fF_o1 hG k_a0
  refine va_get (D := D) (ci := 8) (v := .int 0) (C := RX9) (T := TX9) (N := 18) hx hb hts in9 hown hK (va_one at_31) 0 rfl rfl 4 (by decide) (hts (.fieldLink RX9 29 "RiverModel" "isBuilt" "Z") (List.mem_of_getElem? (i := 1) rfl)) (fun _ h9 => h9) rfl dX9_lacksStore_1 ?_
  refine lv_if_eq (tgt := 18) hx hb dX9_lacksStore_4 (by decide) (fun _ => ?_) (fun q => absurd (by decide) q)
  refine lv_iconst (v := 1) hx hb dX9_lacksStore_18 (by decide) ?_
  refine lv_goto (tgt := 23) hx hb dX9_lacksStore_19 (by decide) ?_
  exact ty_zret hx hb hr hlk rfl hG hS (by first | exact Or.inl ⟨rfl, by omega⟩ | exact Or.inr ⟨rfl, by omega⟩ | exact Or.inr (Or.inl ⟨rfl, by omega⟩) | exact Or.inr (Or.inr ⟨rfl, by omega⟩) | exact ⟨rfl, by omega⟩ | omega | trivial | rfl | (exfalso; omega)) dX9_lacksStore_23

def uX9_lacksGate : List Cond := .code yX9_lacksGate cX9_lacksGate 2 (some .boolean) :: ([.fieldLink RX9 29 "RiverModel" "isBuilt" "Z"] ++ wsX90)
set_option maxHeartbeats 4000000 in
set_option maxRecDepth 100000 in
theorem c_X9_lacksGate (l : Launch) (D : va_G) (t : Nat → Nat) (cI cL cC : ClassId) (a0 : Nat) (a1 : Int32) (k_a0 : t a0 = 1) : tM l yX9_lacksGate uX9_lacksGate 0 0 D (fF cI cL cC 0 0) (fF cI cL cC 0 0) t cI cL cC [.ref a0, .int a1] wr0 (pI (fun r => r = 1)) := by
  refine tM.ofW (cc := cX9_lacksGate) (maxL := 2) (ret := (some .boolean)) (by decide) rfl (Nat.le_of_ble_eq_true rfl) ?_
  intro p e s m below meth c hx hb hr hml hown hts hlk H locs hG hK hE hS ls hl
  have hl : lv_has ls 2 [(0, .ref a0), (1, .int a1)] := hl
  have in9 : ∀ w ∈ wsX90, w ∈ uX9_lacksGate := fun w h => List.mem_cons_of_mem _ (List.mem_append_right _ h)
  refine lv_aload_n hx hb dX9_lacksGate_0 rfl (lv_at hl 0 rfl) ?_
  obtain ⟨r_1, r_3, r_5, r_7, r_9, r_11, r_13, r_15, r_17, r_19, r_21, r_23, r_25, r_27, r_29, at_31, h_2, h_4, h_6, h_8, h_10, h_12, h_14, h_16, h_18, h_20, h_22, h_24, h_26, h_28, h_30⟩ := fF_o1 hG k_a0
  refine va_get (D := D) (ci := 8) (v := .int 0) (C := RX9) (T := TX9) (N := 18) hx hb hts in9 hown hK (va_one at_31) 0 rfl rfl 4 (by decide) (hts (.fieldLink RX9 29 "RiverModel" "isBuilt" "Z") (List.mem_of_getElem? (i := 1) rfl)) (fun _ h9 => h9) rfl dX9_lacksGate_1 ?_
  refine lv_if_eq (tgt := 18) hx hb dX9_lacksGate_4 (by decide) (fun _ => ?_) (fun q => absurd (by decide) q)
  refine lv_iconst (v := 1) hx hb dX9_lacksGate_18 (by decide) ?_
  refine lv_goto (tgt := 23) hx hb dX9_lacksGate_19 (by decide) ?_
  exact ty_zret hx hb hr hlk rfl hG hS (by first | exact Or.inl ⟨rfl, by omega⟩ | exact Or.inr ⟨rfl, by omega⟩ | exact Or.inr (Or.inl ⟨rfl, by omega⟩) | exact Or.inr (Or.inr ⟨rfl, by omega⟩) | exact ⟨rfl, by omega⟩ | omega | trivial | rfl | (exfalso; omega)) dX9_lacksGate_23

def uX9_lacksGauge : List Cond := .code yX9_lacksGauge cX9_lacksGauge 2 (some .boolean) :: ([.fieldLink RX9 29 "RiverModel" "isBuilt" "Z"] ++ wsX90)
set_option maxHeartbeats 4000000 in
set_option maxRecDepth 100000 in
theorem c_X9_lacksGauge (l : Launch) (D : va_G) (t : Nat → Nat) (cI cL cC : ClassId) (a0 : Nat) (a1 : Int32) (k_a0 : t a0 = 1) : tM l yX9_lacksGauge uX9_lacksGauge 0 0 D (fF cI cL cC 0 0) (fF cI cL cC 0 0) t cI cL cC [.ref a0, .int a1] wr0 (pI (fun r => r = 1)) := by
  refine tM.ofW (cc := cX9_lacksGauge) (maxL := 2) (ret := (some .boolean)) (by decide) rfl (Nat.le_of_ble_eq_true rfl) ?_
  intro p e s m below meth c hx hb hr hml hown hts hlk H locs hG hK hE hS ls hl
  have hl : lv_has ls 2 [(0, .ref a0), (1, .int a1)] := hl
  have in9 : ∀ w ∈ wsX90, w ∈ uX9_lacksGauge := fun w h => List.mem_cons_of_mem _ (List.mem_append_right _ h)
  refine lv_aload_n hx hb dX9_lacksGauge_0 rfl (lv_at hl 0 rfl) ?_
  obtain ⟨r_1, r_3, r_5, r_7, r_9, r_11, r_13, r_15, r_17, r_19, r_21, r_23, r_25, r_27, r_29, at_31, h_2, h_4, h_6, h_8, h_10, h_12, h_14, h_16, h_18, h_20, h_22, h_24, h_26, h_28, h_30⟩ := fF_o1 hG k_a0
  refine va_get (D := D) (ci := 8) (v := .int 0) (C := RX9) (T := TX9) (N := 18) hx hb hts in9 hown hK (va_one at_31) 0 rfl rfl 4 (by decide) (hts (.fieldLink RX9 29 "RiverModel" "isBuilt" "Z") (List.mem_of_getElem? (i := 1) rfl)) (fun _ h9 => h9) rfl dX9_lacksGauge_1 ?_
  refine lv_if_eq (tgt := 18) hx hb dX9_lacksGauge_4 (by decide) (fun _ => ?_) (fun q => absurd (by decide) q)
  refine lv_iconst (v := 1) hx hb dX9_lacksGauge_18 (by decide) ?_
  refine lv_goto (tgt := 23) hx hb dX9_lacksGauge_19 (by decide) ?_
  exact ty_zret hx hb hr hlk rfl hG hS (by first | exact Or.inl ⟨rfl, by omega⟩ | exact Or.inr ⟨rfl, by omega⟩ | exact Or.inr (Or.inl ⟨rfl, by omega⟩) | exact Or.inr (Or.inr ⟨rfl, by omega⟩) | exact ⟨rfl, by omega⟩ | omega | trivial | rfl | (exfalso; omega)) dX9_lacksGauge_23

def uX9_item : List Cond := .code yX9_item cX9_item 3 (some .int) :: ([.methodLink RX9 127 yX9_isNoItem, .static yX9_isNoItem, .initialized RX9, .methodLink RX9 99 yX9_isOutside, .static yX9_isOutside, .methodLink RX9 131 yX9_lacksItem, .instanceMethod yX9_lacksItem, .selects RX9 yX9_lacksItem yX9_lacksItem, .code yX9_isNoItem cX9_isNoItem 1 (some .boolean), .code yX9_isOutside cX9_isOutside 3 (some .boolean), .code yX9_lacksItem cX9_lacksItem 2 (some .boolean), .fieldLink RX9 29 "RiverModel" "isBuilt" "Z"] ++ wsX90)
set_option maxRecDepth 20000 in
theorem gu_X9_item_X9_isNoItem_127 : GoodIn uX9_item (va_wsS RX9 127 yX9_isNoItem uX9_isNoItem) := goodIn_r _ [1, 2, 3, 9] (by decide +kernel) (by decide +kernel)
set_option maxRecDepth 20000 in
theorem gu_X9_item_X9_isOutside_99 : GoodIn uX9_item (va_wsS RX9 99 yX9_isOutside uX9_isOutside) := goodIn_r _ [4, 5, 3, 10] (by decide +kernel) (by decide +kernel)
set_option maxRecDepth 20000 in
theorem gu_X9_item_X9_lacksItem_131 : GoodIn uX9_item (wsV RX9 131 RX9 yX9_lacksItem uX9_lacksItem) := goodIn_r _ [6, 7, 8, 3, 11, 12, 13, 14, 15, 16, 17, 18, 19, 20, 21, 22, 23, 24, 25, 26, 27, 28, 29, 30] (by decide +kernel) (by decide +kernel)
set_option maxHeartbeats 4000000 in
set_option maxRecDepth 100000 in
theorem c_X9_item (l : Launch) (D : va_G) (t : Nat → Nat) (cI cL cC : ClassId) (a0 : Nat) (a1 : Int32) (a2 : Int32) (k_a0 : t a0 = 1) : tM l yX9_item uX9_item 1 22 D (fF cI cL cC 0 0) (fF cI cL cC 0 0) t cI cL cC [.ref a0, .int a1, .int a2] wr0 (pI (fun r => (r = (-1) ∧ (a1.toInt < 0 ∨ 39 < a1.toInt ∨ a2.toInt < 0 ∨ 5 < a2.toInt)) ∨ (r = (-2) ∧ 0 ≤ a1.toInt ∧ a1.toInt ≤ 39 ∧ 0 ≤ a2.toInt ∧ a2.toInt ≤ 5))) := by
  refine tM.ofW (cc := cX9_item) (maxL := 3) (ret := (some .int)) (by decide) rfl (Nat.le_of_ble_eq_true rfl) ?_
  intro p e s m below meth c hx hb hr hml hown hts hlk H locs hG hK hE hS ls hl
  have hl : lv_has ls 3 [(0, .ref a0), (1, .int a1), (2, .int a2)] := hl
  skip
  refine lv_iload_n hx hb dX9_item_0 rfl (lv_at hl 1 rfl) ?_
  refine ty_calli ((W.runS (As := [.int a1]) (rest := []) ⟨hx, hb, hml, hown, hts⟩ (c_isNoItem l D t cI cL cC 0 0 a1 ) (va_cwS 1 hts gu_X9_item_X9_isNoItem_127 rfl rfl rfl (by decide +kernel) ⟨Nat.le_of_ble_eq_true rfl, Nat.le_of_ble_eq_true rfl⟩) (tP_S hG hE) rfl rfl hl.1 rfl (lv_room (Nat.le_of_ble_eq_true rfl)) dX9_item_1 ⟨Nat.le_of_ble_eq_true rfl, Nat.le_of_ble_eq_true rfl⟩)) hS (fun _ h => h) (fun r_1 H locs hp_2 hG hS o_3 => ?_)
  rcases hp_2 with ⟨rfl, hc_1⟩ | ⟨rfl, hc_2, hc_3⟩
  · skip
    refine lv_if_ne (tgt := 16) hx hb dX9_item_4 (by decide) (fun _ => ?_) (fun q => absurd q (by decide))
    refine lv_iconst (v := (-1)) hx hb dX9_item_16 (by decide) ?_
    exact ty_iret hx hb hr hlk hG hS (by first | exact Or.inl ⟨rfl, by omega⟩ | exact Or.inr ⟨rfl, by omega⟩ | exact Or.inr (Or.inl ⟨rfl, by omega⟩) | exact Or.inr (Or.inr ⟨rfl, by omega⟩) | exact ⟨rfl, by omega⟩ | omega | trivial | rfl | (exfalso; omega)) dX9_item_17
  · skip
    refine lv_if_ne (tgt := 16) hx hb dX9_item_4 (by decide) (fun q => absurd rfl q) (fun _ => ?_)
    refine lv_iload_n hx hb dX9_item_7 rfl (lv_at hl 2 rfl) ?_
    refine lv_pc (pc2 := 8) rfl ?_
    refine lv_iconst (v := 0) hx hb dX9_item_8 (by decide) ?_
    refine lv_iconst (v := 5) hx hb dX9_item_9 (by decide) ?_
    refine ty_calli ((W.runS (As := [.int a2, .int 0, .int 5]) (rest := []) ⟨hx, hb, hml, hown, hts⟩ (c_isOutside l D t cI cL cC 0 0 a2 0 5 0 5 (by decide) (by decide) ) (va_cwS 3 hts gu_X9_item_X9_isOutside_99 rfl rfl rfl (by decide +kernel) ⟨Nat.le_of_ble_eq_true rfl, Nat.le_of_ble_eq_true rfl⟩) (tP_S hG hE) rfl rfl hl.1 rfl (lv_room (Nat.le_of_ble_eq_true rfl)) dX9_item_10 ⟨Nat.le_of_ble_eq_true rfl, Nat.le_of_ble_eq_true rfl⟩)) hS (fun _ h => h) (fun r_4 H locs hp_5 hG hS o_6 => ?_)
    rcases hp_5 with ⟨rfl, hc_4⟩ | ⟨rfl, hc_5, hc_6⟩
    · skip
      refine lv_if_eq (tgt := 18) hx hb dX9_item_13 (by decide) (fun q => absurd q (by decide)) (fun _ => ?_)
      refine lv_iconst (v := (-1)) hx hb dX9_item_16 (by decide) ?_
      exact ty_iret hx hb hr hlk hG hS (by first | exact Or.inl ⟨rfl, by omega⟩ | exact Or.inr ⟨rfl, by omega⟩ | exact Or.inr (Or.inl ⟨rfl, by omega⟩) | exact Or.inr (Or.inr ⟨rfl, by omega⟩) | exact ⟨rfl, by omega⟩ | omega | trivial | rfl | (exfalso; omega)) dX9_item_17
    · skip
      refine lv_if_eq (tgt := 18) hx hb dX9_item_13 (by decide) (fun _ => ?_) (fun q => absurd (by decide) q)
      refine lv_aload_n hx hb dX9_item_18 rfl (lv_at hl 0 rfl) ?_
      refine lv_pc (pc2 := 19) rfl ?_
      refine lv_iload_n hx hb dX9_item_19 rfl (lv_at hl 1 rfl) ?_
      obtain ⟨r_7, r_9, r_11, r_13, r_15, r_17, r_19, r_21, r_23, r_25, r_27, r_29, r_31, r_33, r_35, at_37, h_8, h_10, h_12, h_14, h_16, h_18, h_20, h_22, h_24, h_26, h_28, h_30, h_32, h_34, h_36⟩ := fF_o1 hG k_a0
      refine ty_calli ((W.runV (As := [.int a1]) (rest := []) ⟨hx, hb, hml, hown, hts⟩ (c_X9_lacksItem l D t cI cL cC a0 a1 k_a0) (cwV 1 hts gu_X9_item_X9_lacksItem_131 rfl rfl rfl (by decide +kernel) ⟨Nat.le_of_ble_eq_true rfl, Nat.le_of_ble_eq_true rfl⟩) (tP_V hG hE at_37 rfl) rfl rfl hl.1 rfl (lv_room (Nat.le_of_ble_eq_true rfl)) dX9_item_20 ⟨Nat.le_of_ble_eq_true rfl, Nat.le_of_ble_eq_true rfl⟩)) hS (fun _ h => h) (fun r_38 H locs hp_39 hG hS o_40 => ?_)
      have at_37 := va_at.keptC at_37 o_40 k_a0 rfl
      rcases hp_39 with rfl
      refine lv_if_eq (tgt := 31) hx hb dX9_item_23 (by decide) (fun q => absurd q (by decide)) (fun _ => ?_)
      refine lv_bipush (v := (-2)) hx hb dX9_item_26 (by decide) ?_
      refine lv_goto (tgt := 40) hx hb dX9_item_28 (by decide) ?_
      exact ty_iret hx hb hr hlk hG hS (by first | exact Or.inl ⟨rfl, by omega⟩ | exact Or.inr ⟨rfl, by omega⟩ | exact Or.inr (Or.inl ⟨rfl, by omega⟩) | exact Or.inr (Or.inr ⟨rfl, by omega⟩) | exact ⟨rfl, by omega⟩ | omega | trivial | rfl | (exfalso; omega)) dX9_item_40

def uX9_anew : List Cond := .code yX9_anew cX9_anew 2 (some .int) :: ([.fieldLink RX9 29 "RiverModel" "isBuilt" "Z"] ++ wsX90)
set_option maxHeartbeats 4000000 in
set_option maxRecDepth 100000 in
theorem c_X9_anew (l : Launch) (D : va_G) (t : Nat → Nat) (cI cL cC : ClassId) (a0 : Nat) (k_a0 : t a0 = 1) : tM l yX9_anew uX9_anew 0 0 D (fF cI cL cC 0 0) (fF cI cL cC 0 0) t cI cL cC [.ref a0] wr0 (pI (fun r => r = (-2))) := by
  refine tM.ofW (cc := cX9_anew) (maxL := 2) (ret := (some .int)) (by decide) rfl (Nat.le_of_ble_eq_true rfl) ?_
  intro p e s m below meth c hx hb hr hml hown hts hlk H locs hG hK hE hS ls hl
  have hl : lv_has ls 2 [(0, .ref a0)] := hl
  have in9 : ∀ w ∈ wsX90, w ∈ uX9_anew := fun w h => List.mem_cons_of_mem _ (List.mem_append_right _ h)
  refine lv_aload_n hx hb dX9_anew_0 rfl (lv_at hl 0 rfl) ?_
  obtain ⟨r_1, r_3, r_5, r_7, r_9, r_11, r_13, r_15, r_17, r_19, r_21, r_23, r_25, r_27, r_29, at_31, h_2, h_4, h_6, h_8, h_10, h_12, h_14, h_16, h_18, h_20, h_22, h_24, h_26, h_28, h_30⟩ := fF_o1 hG k_a0
  refine va_get (D := D) (ci := 8) (v := .int 0) (C := RX9) (T := TX9) (N := 18) hx hb hts in9 hown hK (va_one at_31) 0 rfl rfl 4 (by decide) (hts (.fieldLink RX9 29 "RiverModel" "isBuilt" "Z") (List.mem_of_getElem? (i := 1) rfl)) (fun _ h9 => h9) rfl dX9_anew_1 ?_
  refine lv_if_ne (tgt := 10) hx hb dX9_anew_4 (by decide) (fun q => absurd rfl q) (fun _ => ?_)
  refine lv_bipush (v := (-2)) hx hb dX9_anew_7 (by decide) ?_
  exact ty_iret hx hb hr hlk hG hS (by first | exact Or.inl ⟨rfl, by omega⟩ | exact Or.inr ⟨rfl, by omega⟩ | exact Or.inr (Or.inl ⟨rfl, by omega⟩) | exact Or.inr (Or.inr ⟨rfl, by omega⟩) | exact ⟨rfl, by omega⟩ | omega | trivial | rfl | (exfalso; omega)) dX9_anew_9

def uX9_run : List Cond := .code yX9_run cX9_run 3 (some .int) :: ([.methodLink RX9 99 yX9_isOutside, .static yX9_isOutside, .initialized RX9, .fieldLink RX9 29 "RiverModel" "isBuilt" "Z", .code yX9_isOutside cX9_isOutside 3 (some .boolean)] ++ wsX90)
set_option maxRecDepth 20000 in
theorem gu_X9_run_X9_isOutside_99 : GoodIn uX9_run (va_wsS RX9 99 yX9_isOutside uX9_isOutside) := goodIn_r _ [1, 2, 3, 5] (by decide +kernel) (by decide +kernel)
set_option maxHeartbeats 4000000 in
set_option maxRecDepth 100000 in
theorem c_X9_run (l : Launch) (D : va_G) (t : Nat → Nat) (cI cL cC : ClassId) (a0 : Nat) (a1 : Int32) (k_a0 : t a0 = 1) : tM l yX9_run uX9_run 1 22 D (fF cI cL cC 0 0) (fF cI cL cC 0 0) t cI cL cC [.ref a0, .int a1] wr0 (pI (fun r => (r = (-1) ∧ (a1.toInt < 1 ∨ 96 < a1.toInt)) ∨ (r = (-2) ∧ 1 ≤ a1.toInt ∧ a1.toInt ≤ 96))) := by
  refine tM.ofW (cc := cX9_run) (maxL := 3) (ret := (some .int)) (by decide) rfl (Nat.le_of_ble_eq_true rfl) ?_
  intro p e s m below meth c hx hb hr hml hown hts hlk H locs hG hK hE hS ls hl
  have hl : lv_has ls 3 [(0, .ref a0), (1, .int a1)] := hl
  have in9 : ∀ w ∈ wsX90, w ∈ uX9_run := fun w h => List.mem_cons_of_mem _ (List.mem_append_right _ h)
  refine lv_iload_n hx hb dX9_run_0 rfl (lv_at hl 1 rfl) ?_
  refine lv_iconst (v := 1) hx hb dX9_run_1 (by decide) ?_
  refine lv_bipush (v := 96) hx hb dX9_run_2 (by decide) ?_
  refine ty_calli ((W.runS (As := [.int a1, .int 1, .int 96]) (rest := []) ⟨hx, hb, hml, hown, hts⟩ (c_isOutside l D t cI cL cC 0 0 a1 1 96 1 96 (by decide) (by decide) ) (va_cwS 3 hts gu_X9_run_X9_isOutside_99 rfl rfl rfl (by decide +kernel) ⟨Nat.le_of_ble_eq_true rfl, Nat.le_of_ble_eq_true rfl⟩) (tP_S hG hE) rfl rfl hl.1 rfl (lv_room (Nat.le_of_ble_eq_true rfl)) dX9_run_4 ⟨Nat.le_of_ble_eq_true rfl, Nat.le_of_ble_eq_true rfl⟩)) hS (fun _ h => h) (fun r_1 H locs hp_2 hG hS o_3 => ?_)
  rcases hp_2 with ⟨rfl, hc_7⟩ | ⟨rfl, hc_8, hc_9⟩
  · skip
    refine lv_if_eq (tgt := 12) hx hb dX9_run_7 (by decide) (fun q => absurd q (by decide)) (fun _ => ?_)
    refine lv_iconst (v := (-1)) hx hb dX9_run_10 (by decide) ?_
    exact ty_iret hx hb hr hlk hG hS (by first | exact Or.inl ⟨rfl, by omega⟩ | exact Or.inr ⟨rfl, by omega⟩ | exact Or.inr (Or.inl ⟨rfl, by omega⟩) | exact Or.inr (Or.inr ⟨rfl, by omega⟩) | exact ⟨rfl, by omega⟩ | omega | trivial | rfl | (exfalso; omega)) dX9_run_11
  · skip
    refine lv_pc (pc2 := 7) rfl ?_
    refine lv_if_eq (tgt := 12) hx hb dX9_run_7 (by decide) (fun _ => ?_) (fun q => absurd (by decide) q)
    refine lv_aload_n hx hb dX9_run_12 rfl (lv_at hl 0 rfl) ?_
    obtain ⟨r_4, r_6, r_8, r_10, r_12, r_14, r_16, r_18, r_20, r_22, r_24, r_26, r_28, r_30, r_32, at_34, h_5, h_7, h_9, h_11, h_13, h_15, h_17, h_19, h_21, h_23, h_25, h_27, h_29, h_31, h_33⟩ := fF_o1 hG k_a0
    refine va_get (D := D) (ci := 8) (v := .int 0) (C := RX9) (T := TX9) (N := 18) hx hb hts in9 hown hK (va_one at_34) 0 rfl rfl 4 (by decide) (hts (.fieldLink RX9 29 "RiverModel" "isBuilt" "Z") (List.mem_of_getElem? (i := 4) rfl)) (fun _ h9 => h9) rfl dX9_run_13 ?_
    refine lv_if_ne (tgt := 22) hx hb dX9_run_16 (by decide) (fun q => absurd rfl q) (fun _ => ?_)
    refine lv_bipush (v := (-2)) hx hb dX9_run_19 (by decide) ?_
    exact ty_iret hx hb hr hlk hG hS (by first | exact Or.inl ⟨rfl, by omega⟩ | exact Or.inr ⟨rfl, by omega⟩ | exact Or.inr (Or.inl ⟨rfl, by omega⟩) | exact Or.inr (Or.inr ⟨rfl, by omega⟩) | exact ⟨rfl, by omega⟩ | omega | trivial | rfl | (exfalso; omega)) dX9_run_21

def uX9_has : List Cond := .code yX9_has cX9_has 3 (some .long) :: ([.methodLink RX9 155 yX9_isNoStore, .static yX9_isNoStore, .initialized RX9, .constantLong RX9 158 (-1), .methodLink RX9 99 yX9_isOutside, .static yX9_isOutside, .methodLink RX9 160 yX9_lacksStore, .instanceMethod yX9_lacksStore, .selects RX9 yX9_lacksStore yX9_lacksStore, .constantLong RX9 163 (-2), .code yX9_isNoStore cX9_isNoStore 1 (some .boolean), .code yX9_isOutside cX9_isOutside 3 (some .boolean), .code yX9_lacksStore cX9_lacksStore 2 (some .boolean), .fieldLink RX9 29 "RiverModel" "isBuilt" "Z"] ++ wsX90)
set_option maxRecDepth 20000 in
theorem gu_X9_has_X9_isNoStore_155 : GoodIn uX9_has (va_wsS RX9 155 yX9_isNoStore uX9_isNoStore) := goodIn_r _ [1, 2, 3, 11] (by decide +kernel) (by decide +kernel)
set_option maxRecDepth 20000 in
theorem gu_X9_has_X9_isOutside_99 : GoodIn uX9_has (va_wsS RX9 99 yX9_isOutside uX9_isOutside) := goodIn_r _ [5, 6, 3, 12] (by decide +kernel) (by decide +kernel)
set_option maxRecDepth 20000 in
theorem gu_X9_has_X9_lacksStore_160 : GoodIn uX9_has (wsV RX9 160 RX9 yX9_lacksStore uX9_lacksStore) := goodIn_r _ [7, 8, 9, 3, 13, 14, 15, 16, 17, 18, 19, 20, 21, 22, 23, 24, 25, 26, 27, 28, 29, 30, 31, 32] (by decide +kernel) (by decide +kernel)
set_option maxHeartbeats 4000000 in
set_option maxRecDepth 100000 in
theorem c_X9_has (l : Launch) (D : va_G) (t : Nat → Nat) (cI cL cC : ClassId) (a0 : Nat) (a1 : Int32) (a2 : Int32) (k_a0 : t a0 = 1) : tM l yX9_has uX9_has 1 22 D (fF cI cL cC 0 0) (fF cI cL cC 0 0) t cI cL cC [.ref a0, .int a1, .int a2] wr0 (pL (fun r => (r = (-1) ∧ (a1.toInt < 0 ∨ 15 < a1.toInt ∨ a2.toInt < 0 ∨ 1 < a2.toInt)) ∨ (r = (-2) ∧ 0 ≤ a1.toInt ∧ a1.toInt ≤ 15 ∧ 0 ≤ a2.toInt ∧ a2.toInt ≤ 1))) := by
  refine tM.ofW (cc := cX9_has) (maxL := 3) (ret := (some .long)) (by decide) rfl (Nat.le_of_ble_eq_true rfl) ?_
  intro p e s m below meth c hx hb hr hml hown hts hlk H locs hG hK hE hS ls hl
  have hl : lv_has ls 3 [(0, .ref a0), (1, .int a1), (2, .int a2)] := hl
  skip
  refine lv_iload_n hx hb dX9_has_0 rfl (lv_at hl 1 rfl) ?_
  refine ty_calli ((W.runS (As := [.int a1]) (rest := []) ⟨hx, hb, hml, hown, hts⟩ (c_isNoStore l D t cI cL cC 0 0 a1 ) (va_cwS 1 hts gu_X9_has_X9_isNoStore_155 rfl rfl rfl (by decide +kernel) ⟨Nat.le_of_ble_eq_true rfl, Nat.le_of_ble_eq_true rfl⟩) (tP_S hG hE) rfl rfl hl.1 rfl (lv_room (Nat.le_of_ble_eq_true rfl)) dX9_has_1 ⟨Nat.le_of_ble_eq_true rfl, Nat.le_of_ble_eq_true rfl⟩)) hS (fun _ h => h) (fun r_1 H locs hp_2 hG hS o_3 => ?_)
  rcases hp_2 with ⟨rfl, hc_10⟩ | ⟨rfl, hc_11, hc_12⟩
  · skip
    refine lv_if_ne (tgt := 16) hx hb dX9_has_4 (by decide) (fun _ => ?_) (fun q => absurd q (by decide))
    refine lv_ldc2 hx hb hown (hts (.constantLong RX9 158 (-1)) (List.mem_of_getElem? (i := 4) rfl)) dX9_has_16 ?_
    exact ty_lret hx hb hr hlk hG hS (by first | exact Or.inl ⟨rfl, by omega⟩ | exact Or.inr ⟨rfl, by omega⟩ | exact Or.inr (Or.inl ⟨rfl, by omega⟩) | exact Or.inr (Or.inr ⟨rfl, by omega⟩) | exact ⟨rfl, by omega⟩ | omega | trivial | rfl | (exfalso; omega)) dX9_has_19
  · skip
    refine lv_if_ne (tgt := 16) hx hb dX9_has_4 (by decide) (fun q => absurd rfl q) (fun _ => ?_)
    refine lv_iload_n hx hb dX9_has_7 rfl (lv_at hl 2 rfl) ?_
    refine lv_pc (pc2 := 8) rfl ?_
    refine lv_iconst (v := 0) hx hb dX9_has_8 (by decide) ?_
    refine lv_iconst (v := 1) hx hb dX9_has_9 (by decide) ?_
    refine ty_calli ((W.runS (As := [.int a2, .int 0, .int 1]) (rest := []) ⟨hx, hb, hml, hown, hts⟩ (c_isOutside l D t cI cL cC 0 0 a2 0 1 0 1 (by decide) (by decide) ) (va_cwS 3 hts gu_X9_has_X9_isOutside_99 rfl rfl rfl (by decide +kernel) ⟨Nat.le_of_ble_eq_true rfl, Nat.le_of_ble_eq_true rfl⟩) (tP_S hG hE) rfl rfl hl.1 rfl (lv_room (Nat.le_of_ble_eq_true rfl)) dX9_has_10 ⟨Nat.le_of_ble_eq_true rfl, Nat.le_of_ble_eq_true rfl⟩)) hS (fun _ h => h) (fun r_4 H locs hp_5 hG hS o_6 => ?_)
    rcases hp_5 with ⟨rfl, hc_13⟩ | ⟨rfl, hc_14, hc_15⟩
    · skip
      refine lv_if_eq (tgt := 20) hx hb dX9_has_13 (by decide) (fun q => absurd q (by decide)) (fun _ => ?_)
      refine lv_ldc2 hx hb hown (hts (.constantLong RX9 158 (-1)) (List.mem_of_getElem? (i := 4) rfl)) dX9_has_16 ?_
      exact ty_lret hx hb hr hlk hG hS (by first | exact Or.inl ⟨rfl, by omega⟩ | exact Or.inr ⟨rfl, by omega⟩ | exact Or.inr (Or.inl ⟨rfl, by omega⟩) | exact Or.inr (Or.inr ⟨rfl, by omega⟩) | exact ⟨rfl, by omega⟩ | omega | trivial | rfl | (exfalso; omega)) dX9_has_19
    · skip
      refine lv_if_eq (tgt := 20) hx hb dX9_has_13 (by decide) (fun _ => ?_) (fun q => absurd (by decide) q)
      refine lv_aload_n hx hb dX9_has_20 rfl (lv_at hl 0 rfl) ?_
      refine lv_pc (pc2 := 21) rfl ?_
      refine lv_iload_n hx hb dX9_has_21 rfl (lv_at hl 1 rfl) ?_
      obtain ⟨r_7, r_9, r_11, r_13, r_15, r_17, r_19, r_21, r_23, r_25, r_27, r_29, r_31, r_33, r_35, at_37, h_8, h_10, h_12, h_14, h_16, h_18, h_20, h_22, h_24, h_26, h_28, h_30, h_32, h_34, h_36⟩ := fF_o1 hG k_a0
      refine ty_calli ((W.runV (As := [.int a1]) (rest := []) ⟨hx, hb, hml, hown, hts⟩ (c_X9_lacksStore l D t cI cL cC a0 a1 k_a0) (cwV 1 hts gu_X9_has_X9_lacksStore_160 rfl rfl rfl (by decide +kernel) ⟨Nat.le_of_ble_eq_true rfl, Nat.le_of_ble_eq_true rfl⟩) (tP_V hG hE at_37 rfl) rfl rfl hl.1 rfl (lv_room (Nat.le_of_ble_eq_true rfl)) dX9_has_22 ⟨Nat.le_of_ble_eq_true rfl, Nat.le_of_ble_eq_true rfl⟩)) hS (fun _ h => h) (fun r_38 H locs hp_39 hG hS o_40 => ?_)
      have at_37 := va_at.keptC at_37 o_40 k_a0 rfl
      rcases hp_39 with rfl
      refine lv_if_eq (tgt := 32) hx hb dX9_has_25 (by decide) (fun q => absurd q (by decide)) (fun _ => ?_)
      refine lv_ldc2 hx hb hown (hts (.constantLong RX9 163 (-2)) (List.mem_of_getElem? (i := 10) rfl)) dX9_has_28 ?_
      exact ty_lret hx hb hr hlk hG hS (by first | exact Or.inl ⟨rfl, by omega⟩ | exact Or.inr ⟨rfl, by omega⟩ | exact Or.inr (Or.inl ⟨rfl, by omega⟩) | exact Or.inr (Or.inr ⟨rfl, by omega⟩) | exact ⟨rfl, by omega⟩ | omega | trivial | rfl | (exfalso; omega)) dX9_has_31

def uX9_flow : List Cond := .code yX9_flow cX9_flow 2 (some .long) :: ([.methodLink RX9 127 yX9_isNoItem, .static yX9_isNoItem, .initialized RX9, .constantLong RX9 158 (-1), .methodLink RX9 131 yX9_lacksItem, .instanceMethod yX9_lacksItem, .selects RX9 yX9_lacksItem yX9_lacksItem, .constantLong RX9 163 (-2), .code yX9_isNoItem cX9_isNoItem 1 (some .boolean), .code yX9_lacksItem cX9_lacksItem 2 (some .boolean), .fieldLink RX9 29 "RiverModel" "isBuilt" "Z"] ++ wsX90)
set_option maxRecDepth 20000 in
theorem gu_X9_flow_X9_isNoItem_127 : GoodIn uX9_flow (va_wsS RX9 127 yX9_isNoItem uX9_isNoItem) := goodIn_r _ [1, 2, 3, 9] (by decide +kernel) (by decide +kernel)
set_option maxRecDepth 20000 in
theorem gu_X9_flow_X9_lacksItem_131 : GoodIn uX9_flow (wsV RX9 131 RX9 yX9_lacksItem uX9_lacksItem) := goodIn_r _ [5, 6, 7, 3, 10, 11, 12, 13, 14, 15, 16, 17, 18, 19, 20, 21, 22, 23, 24, 25, 26, 27, 28, 29] (by decide +kernel) (by decide +kernel)
set_option maxHeartbeats 4000000 in
set_option maxRecDepth 100000 in
theorem c_X9_flow (l : Launch) (D : va_G) (t : Nat → Nat) (cI cL cC : ClassId) (a0 : Nat) (a1 : Int32) (k_a0 : t a0 = 1) : tM l yX9_flow uX9_flow 1 21 D (fF cI cL cC 0 0) (fF cI cL cC 0 0) t cI cL cC [.ref a0, .int a1] wr0 (pL (fun r => (r = (-1) ∧ (a1.toInt < 0 ∨ 39 < a1.toInt)) ∨ (r = (-2) ∧ 0 ≤ a1.toInt ∧ a1.toInt ≤ 39))) := by
  refine tM.ofW (cc := cX9_flow) (maxL := 2) (ret := (some .long)) (by decide) rfl (Nat.le_of_ble_eq_true rfl) ?_
  intro p e s m below meth c hx hb hr hml hown hts hlk H locs hG hK hE hS ls hl
  have hl : lv_has ls 2 [(0, .ref a0), (1, .int a1)] := hl
  skip
  refine lv_iload_n hx hb dX9_flow_0 rfl (lv_at hl 1 rfl) ?_
  refine ty_calli ((W.runS (As := [.int a1]) (rest := []) ⟨hx, hb, hml, hown, hts⟩ (c_isNoItem l D t cI cL cC 0 0 a1 ) (va_cwS 1 hts gu_X9_flow_X9_isNoItem_127 rfl rfl rfl (by decide +kernel) ⟨Nat.le_of_ble_eq_true rfl, Nat.le_of_ble_eq_true rfl⟩) (tP_S hG hE) rfl rfl hl.1 rfl (lv_room (Nat.le_of_ble_eq_true rfl)) dX9_flow_1 ⟨Nat.le_of_ble_eq_true rfl, Nat.le_of_ble_eq_true rfl⟩)) hS (fun _ h => h) (fun r_1 H locs hp_2 hG hS o_3 => ?_)
  rcases hp_2 with ⟨rfl, hc_16⟩ | ⟨rfl, hc_17, hc_18⟩
  · skip
    refine lv_if_eq (tgt := 11) hx hb dX9_flow_4 (by decide) (fun q => absurd q (by decide)) (fun _ => ?_)
    refine lv_ldc2 hx hb hown (hts (.constantLong RX9 158 (-1)) (List.mem_of_getElem? (i := 4) rfl)) dX9_flow_7 ?_
    exact ty_lret hx hb hr hlk hG hS (by first | exact Or.inl ⟨rfl, by omega⟩ | exact Or.inr ⟨rfl, by omega⟩ | exact Or.inr (Or.inl ⟨rfl, by omega⟩) | exact Or.inr (Or.inr ⟨rfl, by omega⟩) | exact ⟨rfl, by omega⟩ | omega | trivial | rfl | (exfalso; omega)) dX9_flow_10
  · skip
    refine lv_if_eq (tgt := 11) hx hb dX9_flow_4 (by decide) (fun _ => ?_) (fun q => absurd (by decide) q)
    refine lv_aload_n hx hb dX9_flow_11 rfl (lv_at hl 0 rfl) ?_
    refine lv_pc (pc2 := 12) rfl ?_
    refine lv_iload_n hx hb dX9_flow_12 rfl (lv_at hl 1 rfl) ?_
    obtain ⟨r_4, r_6, r_8, r_10, r_12, r_14, r_16, r_18, r_20, r_22, r_24, r_26, r_28, r_30, r_32, at_34, h_5, h_7, h_9, h_11, h_13, h_15, h_17, h_19, h_21, h_23, h_25, h_27, h_29, h_31, h_33⟩ := fF_o1 hG k_a0
    refine ty_calli ((W.runV (As := [.int a1]) (rest := []) ⟨hx, hb, hml, hown, hts⟩ (c_X9_lacksItem l D t cI cL cC a0 a1 k_a0) (cwV 1 hts gu_X9_flow_X9_lacksItem_131 rfl rfl rfl (by decide +kernel) ⟨Nat.le_of_ble_eq_true rfl, Nat.le_of_ble_eq_true rfl⟩) (tP_V hG hE at_34 rfl) rfl rfl hl.1 rfl (lv_room (Nat.le_of_ble_eq_true rfl)) dX9_flow_13 ⟨Nat.le_of_ble_eq_true rfl, Nat.le_of_ble_eq_true rfl⟩)) hS (fun _ h => h) (fun r_35 H locs hp_36 hG hS o_37 => ?_)
    have at_34 := va_at.keptC at_34 o_37 k_a0 rfl
    rcases hp_36 with rfl
    refine lv_if_ne (tgt := 29) hx hb dX9_flow_16 (by decide) (fun _ => ?_) (fun q => absurd q (by decide))
    refine lv_ldc2 hx hb hown (hts (.constantLong RX9 163 (-2)) (List.mem_of_getElem? (i := 8) rfl)) dX9_flow_29 ?_
    refine lv_goto (tgt := 44) hx hb dX9_flow_32 (by decide) ?_
    exact ty_lret hx hb hr hlk hG hS (by first | exact Or.inl ⟨rfl, by omega⟩ | exact Or.inr ⟨rfl, by omega⟩ | exact Or.inr (Or.inl ⟨rfl, by omega⟩) | exact Or.inr (Or.inr ⟨rfl, by omega⟩) | exact ⟨rfl, by omega⟩ | omega | trivial | rfl | (exfalso; omega)) dX9_flow_44

def uX9_gate : List Cond := .code yX9_gate cX9_gate 4 (some .int) :: ([.methodLink RX9 176 yX9_isNoGate, .static yX9_isNoGate, .initialized RX9, .methodLink RX9 99 yX9_isOutside, .static yX9_isOutside, .methodLink RX9 179 yX9_lacksGate, .instanceMethod yX9_lacksGate, .selects RX9 yX9_lacksGate yX9_lacksGate, .code yX9_isNoGate cX9_isNoGate 1 (some .boolean), .code yX9_isOutside cX9_isOutside 3 (some .boolean), .code yX9_lacksGate cX9_lacksGate 2 (some .boolean), .fieldLink RX9 29 "RiverModel" "isBuilt" "Z"] ++ wsX90)
set_option maxRecDepth 20000 in
theorem gu_X9_gate_X9_isNoGate_176 : GoodIn uX9_gate (va_wsS RX9 176 yX9_isNoGate uX9_isNoGate) := goodIn_r _ [1, 2, 3, 9] (by decide +kernel) (by decide +kernel)
set_option maxRecDepth 20000 in
theorem gu_X9_gate_X9_isOutside_99 : GoodIn uX9_gate (va_wsS RX9 99 yX9_isOutside uX9_isOutside) := goodIn_r _ [4, 5, 3, 10] (by decide +kernel) (by decide +kernel)
set_option maxRecDepth 20000 in
theorem gu_X9_gate_X9_lacksGate_179 : GoodIn uX9_gate (wsV RX9 179 RX9 yX9_lacksGate uX9_lacksGate) := goodIn_r _ [6, 7, 8, 3, 11, 12, 13, 14, 15, 16, 17, 18, 19, 20, 21, 22, 23, 24, 25, 26, 27, 28, 29, 30] (by decide +kernel) (by decide +kernel)
set_option maxHeartbeats 4000000 in
set_option maxRecDepth 100000 in
theorem c_X9_gate (l : Launch) (D : va_G) (t : Nat → Nat) (cI cL cC : ClassId) (a0 : Nat) (a1 : Int32) (a2 : Int32) (k_a0 : t a0 = 1) : tM l yX9_gate uX9_gate 1 22 D (fF cI cL cC 0 0) (fF cI cL cC 0 0) t cI cL cC [.ref a0, .int a1, .int a2] wr0 (pI (fun r => (r = (-1) ∧ (a1.toInt < 0 ∨ 3 < a1.toInt ∨ a2.toInt < 0 ∨ 10 < a2.toInt)) ∨ (r = (-2) ∧ 0 ≤ a1.toInt ∧ a1.toInt ≤ 3 ∧ 0 ≤ a2.toInt ∧ a2.toInt ≤ 10))) := by
  refine tM.ofW (cc := cX9_gate) (maxL := 4) (ret := (some .int)) (by decide) rfl (Nat.le_of_ble_eq_true rfl) ?_
  intro p e s m below meth c hx hb hr hml hown hts hlk H locs hG hK hE hS ls hl
  have hl : lv_has ls 4 [(0, .ref a0), (1, .int a1), (2, .int a2)] := hl
  skip
  refine lv_iload_n hx hb dX9_gate_0 rfl (lv_at hl 1 rfl) ?_
  refine ty_calli ((W.runS (As := [.int a1]) (rest := []) ⟨hx, hb, hml, hown, hts⟩ (c_isNoGate l D t cI cL cC 0 0 a1 ) (va_cwS 1 hts gu_X9_gate_X9_isNoGate_176 rfl rfl rfl (by decide +kernel) ⟨Nat.le_of_ble_eq_true rfl, Nat.le_of_ble_eq_true rfl⟩) (tP_S hG hE) rfl rfl hl.1 rfl (lv_room (Nat.le_of_ble_eq_true rfl)) dX9_gate_1 ⟨Nat.le_of_ble_eq_true rfl, Nat.le_of_ble_eq_true rfl⟩)) hS (fun _ h => h) (fun r_1 H locs hp_2 hG hS o_3 => ?_)
  rcases hp_2 with ⟨rfl, hc_19⟩ | ⟨rfl, hc_20, hc_21⟩
  · skip
    refine lv_if_ne (tgt := 17) hx hb dX9_gate_4 (by decide) (fun _ => ?_) (fun q => absurd q (by decide))
    refine lv_iconst (v := (-1)) hx hb dX9_gate_17 (by decide) ?_
    exact ty_iret hx hb hr hlk hG hS (by first | exact Or.inl ⟨rfl, by omega⟩ | exact Or.inr ⟨rfl, by omega⟩ | exact Or.inr (Or.inl ⟨rfl, by omega⟩) | exact Or.inr (Or.inr ⟨rfl, by omega⟩) | exact ⟨rfl, by omega⟩ | omega | trivial | rfl | (exfalso; omega)) dX9_gate_18
  · skip
    refine lv_if_ne (tgt := 17) hx hb dX9_gate_4 (by decide) (fun q => absurd rfl q) (fun _ => ?_)
    refine lv_iload_n hx hb dX9_gate_7 rfl (lv_at hl 2 rfl) ?_
    refine lv_pc (pc2 := 8) rfl ?_
    refine lv_iconst (v := 0) hx hb dX9_gate_8 (by decide) ?_
    refine lv_bipush (v := 10) hx hb dX9_gate_9 (by decide) ?_
    refine ty_calli ((W.runS (As := [.int a2, .int 0, .int 10]) (rest := []) ⟨hx, hb, hml, hown, hts⟩ (c_isOutside l D t cI cL cC 0 0 a2 0 10 0 10 (by decide) (by decide) ) (va_cwS 3 hts gu_X9_gate_X9_isOutside_99 rfl rfl rfl (by decide +kernel) ⟨Nat.le_of_ble_eq_true rfl, Nat.le_of_ble_eq_true rfl⟩) (tP_S hG hE) rfl rfl hl.1 rfl (lv_room (Nat.le_of_ble_eq_true rfl)) dX9_gate_11 ⟨Nat.le_of_ble_eq_true rfl, Nat.le_of_ble_eq_true rfl⟩)) hS (fun _ h => h) (fun r_4 H locs hp_5 hG hS o_6 => ?_)
    rcases hp_5 with ⟨rfl, hc_22⟩ | ⟨rfl, hc_23, hc_24⟩
    · skip
      refine lv_if_eq (tgt := 19) hx hb dX9_gate_14 (by decide) (fun q => absurd q (by decide)) (fun _ => ?_)
      refine lv_iconst (v := (-1)) hx hb dX9_gate_17 (by decide) ?_
      exact ty_iret hx hb hr hlk hG hS (by first | exact Or.inl ⟨rfl, by omega⟩ | exact Or.inr ⟨rfl, by omega⟩ | exact Or.inr (Or.inl ⟨rfl, by omega⟩) | exact Or.inr (Or.inr ⟨rfl, by omega⟩) | exact ⟨rfl, by omega⟩ | omega | trivial | rfl | (exfalso; omega)) dX9_gate_18
    · skip
      refine lv_if_eq (tgt := 19) hx hb dX9_gate_14 (by decide) (fun _ => ?_) (fun q => absurd (by decide) q)
      refine lv_aload_n hx hb dX9_gate_19 rfl (lv_at hl 0 rfl) ?_
      refine lv_pc (pc2 := 20) rfl ?_
      refine lv_iload_n hx hb dX9_gate_20 rfl (lv_at hl 1 rfl) ?_
      obtain ⟨r_7, r_9, r_11, r_13, r_15, r_17, r_19, r_21, r_23, r_25, r_27, r_29, r_31, r_33, r_35, at_37, h_8, h_10, h_12, h_14, h_16, h_18, h_20, h_22, h_24, h_26, h_28, h_30, h_32, h_34, h_36⟩ := fF_o1 hG k_a0
      refine ty_calli ((W.runV (As := [.int a1]) (rest := []) ⟨hx, hb, hml, hown, hts⟩ (c_X9_lacksGate l D t cI cL cC a0 a1 k_a0) (cwV 1 hts gu_X9_gate_X9_lacksGate_179 rfl rfl rfl (by decide +kernel) ⟨Nat.le_of_ble_eq_true rfl, Nat.le_of_ble_eq_true rfl⟩) (tP_V hG hE at_37 rfl) rfl rfl hl.1 rfl (lv_room (Nat.le_of_ble_eq_true rfl)) dX9_gate_21 ⟨Nat.le_of_ble_eq_true rfl, Nat.le_of_ble_eq_true rfl⟩)) hS (fun _ h => h) (fun r_38 H locs hp_39 hG hS o_40 => ?_)
      have at_37 := va_at.keptC at_37 o_40 k_a0 rfl
      rcases hp_39 with rfl
      refine lv_if_eq (tgt := 30) hx hb dX9_gate_24 (by decide) (fun q => absurd q (by decide)) (fun _ => ?_)
      refine lv_bipush (v := (-2)) hx hb dX9_gate_27 (by decide) ?_
      exact ty_iret hx hb hr hlk hG hS (by first | exact Or.inl ⟨rfl, by omega⟩ | exact Or.inr ⟨rfl, by omega⟩ | exact Or.inr (Or.inl ⟨rfl, by omega⟩) | exact Or.inr (Or.inr ⟨rfl, by omega⟩) | exact ⟨rfl, by omega⟩ | omega | trivial | rfl | (exfalso; omega)) dX9_gate_29

def uX9_book : List Cond := .code yX9_book cX9_book 2 (some .long) :: ([.methodLink RX9 99 yX9_isOutside, .static yX9_isOutside, .initialized RX9, .constantLong RX9 158 (-1), .fieldLink RX9 29 "RiverModel" "isBuilt" "Z", .constantLong RX9 163 (-2), .code yX9_isOutside cX9_isOutside 3 (some .boolean)] ++ wsX90)
set_option maxRecDepth 20000 in
theorem gu_X9_book_X9_isOutside_99 : GoodIn uX9_book (va_wsS RX9 99 yX9_isOutside uX9_isOutside) := goodIn_r _ [1, 2, 3, 7] (by decide +kernel) (by decide +kernel)
set_option maxHeartbeats 4000000 in
set_option maxRecDepth 100000 in
theorem c_X9_book (l : Launch) (D : va_G) (t : Nat → Nat) (cI cL cC : ClassId) (a0 : Nat) (a1 : Int32) (k_a0 : t a0 = 1) : tM l yX9_book uX9_book 1 22 D (fF cI cL cC 0 0) (fF cI cL cC 0 0) t cI cL cC [.ref a0, .int a1] wr0 (pL (fun r => (r = (-1) ∧ (a1.toInt < 0 ∨ 5 < a1.toInt)) ∨ (r = (-2) ∧ 0 ≤ a1.toInt ∧ a1.toInt ≤ 5))) := by
  refine tM.ofW (cc := cX9_book) (maxL := 2) (ret := (some .long)) (by decide) rfl (Nat.le_of_ble_eq_true rfl) ?_
  intro p e s m below meth c hx hb hr hml hown hts hlk H locs hG hK hE hS ls hl
  have hl : lv_has ls 2 [(0, .ref a0), (1, .int a1)] := hl
  have in9 : ∀ w ∈ wsX90, w ∈ uX9_book := fun w h => List.mem_cons_of_mem _ (List.mem_append_right _ h)
  refine lv_iload_n hx hb dX9_book_0 rfl (lv_at hl 1 rfl) ?_
  refine lv_iconst (v := 0) hx hb dX9_book_1 (by decide) ?_
  refine lv_iconst (v := 5) hx hb dX9_book_2 (by decide) ?_
  refine ty_calli ((W.runS (As := [.int a1, .int 0, .int 5]) (rest := []) ⟨hx, hb, hml, hown, hts⟩ (c_isOutside l D t cI cL cC 0 0 a1 0 5 0 5 (by decide) (by decide) ) (va_cwS 3 hts gu_X9_book_X9_isOutside_99 rfl rfl rfl (by decide +kernel) ⟨Nat.le_of_ble_eq_true rfl, Nat.le_of_ble_eq_true rfl⟩) (tP_S hG hE) rfl rfl hl.1 rfl (lv_room (Nat.le_of_ble_eq_true rfl)) dX9_book_3 ⟨Nat.le_of_ble_eq_true rfl, Nat.le_of_ble_eq_true rfl⟩)) hS (fun _ h => h) (fun r_1 H locs hp_2 hG hS o_3 => ?_)
  rcases hp_2 with ⟨rfl, hc_25⟩ | ⟨rfl, hc_26, hc_27⟩
  · skip
    refine lv_if_eq (tgt := 13) hx hb dX9_book_6 (by decide) (fun q => absurd q (by decide)) (fun _ => ?_)
    refine lv_ldc2 hx hb hown (hts (.constantLong RX9 158 (-1)) (List.mem_of_getElem? (i := 4) rfl)) dX9_book_9 ?_
    exact ty_lret hx hb hr hlk hG hS (by first | exact Or.inl ⟨rfl, by omega⟩ | exact Or.inr ⟨rfl, by omega⟩ | exact Or.inr (Or.inl ⟨rfl, by omega⟩) | exact Or.inr (Or.inr ⟨rfl, by omega⟩) | exact ⟨rfl, by omega⟩ | omega | trivial | rfl | (exfalso; omega)) dX9_book_12
  · skip
    refine lv_pc (pc2 := 6) rfl ?_
    refine lv_if_eq (tgt := 13) hx hb dX9_book_6 (by decide) (fun _ => ?_) (fun q => absurd (by decide) q)
    refine lv_aload_n hx hb dX9_book_13 rfl (lv_at hl 0 rfl) ?_
    obtain ⟨r_4, r_6, r_8, r_10, r_12, r_14, r_16, r_18, r_20, r_22, r_24, r_26, r_28, r_30, r_32, at_34, h_5, h_7, h_9, h_11, h_13, h_15, h_17, h_19, h_21, h_23, h_25, h_27, h_29, h_31, h_33⟩ := fF_o1 hG k_a0
    refine va_get (D := D) (ci := 8) (v := .int 0) (C := RX9) (T := TX9) (N := 18) hx hb hts in9 hown hK (va_one at_34) 0 rfl rfl 4 (by decide) (hts (.fieldLink RX9 29 "RiverModel" "isBuilt" "Z") (List.mem_of_getElem? (i := 5) rfl)) (fun _ h9 => h9) rfl dX9_book_14 ?_
    refine lv_if_ne (tgt := 24) hx hb dX9_book_17 (by decide) (fun q => absurd rfl q) (fun _ => ?_)
    refine lv_ldc2 hx hb hown (hts (.constantLong RX9 163 (-2)) (List.mem_of_getElem? (i := 6) rfl)) dX9_book_20 ?_
    exact ty_lret hx hb hr hlk hG hS (by first | exact Or.inl ⟨rfl, by omega⟩ | exact Or.inr ⟨rfl, by omega⟩ | exact Or.inr (Or.inl ⟨rfl, by omega⟩) | exact Or.inr (Or.inr ⟨rfl, by omega⟩) | exact ⟨rfl, by omega⟩ | omega | trivial | rfl | (exfalso; omega)) dX9_book_23

def uX9_gauge : List Cond := .code yX9_gauge cX9_gauge 4 (some .int) :: ([.methodLink RX9 205 yX9_isNoGauge, .static yX9_isNoGauge, .initialized RX9, .methodLink RX9 99 yX9_isOutside, .static yX9_isOutside, .methodLink RX9 155 yX9_isNoStore, .static yX9_isNoStore, .methodLink RX9 160 yX9_lacksStore, .instanceMethod yX9_lacksStore, .selects RX9 yX9_lacksStore yX9_lacksStore, .methodLink RX9 131 yX9_lacksItem, .instanceMethod yX9_lacksItem, .selects RX9 yX9_lacksItem yX9_lacksItem, .methodLink RX9 127 yX9_isNoItem, .static yX9_isNoItem, .code yX9_isNoGauge cX9_isNoGauge 1 (some .boolean), .code yX9_isOutside cX9_isOutside 3 (some .boolean), .code yX9_isNoStore cX9_isNoStore 1 (some .boolean), .code yX9_lacksStore cX9_lacksStore 2 (some .boolean), .fieldLink RX9 29 "RiverModel" "isBuilt" "Z", .code yX9_lacksItem cX9_lacksItem 2 (some .boolean), .code yX9_isNoItem cX9_isNoItem 1 (some .boolean)] ++ wsX90)
set_option maxRecDepth 20000 in
theorem gu_X9_gauge_X9_isNoGauge_205 : GoodIn uX9_gauge (va_wsS RX9 205 yX9_isNoGauge uX9_isNoGauge) := goodIn_r _ [1, 2, 3, 16] (by decide +kernel) (by decide +kernel)
set_option maxRecDepth 20000 in
theorem gu_X9_gauge_X9_isOutside_99 : GoodIn uX9_gauge (va_wsS RX9 99 yX9_isOutside uX9_isOutside) := goodIn_r _ [4, 5, 3, 17] (by decide +kernel) (by decide +kernel)
set_option maxRecDepth 20000 in
theorem gu_X9_gauge_X9_isNoStore_155 : GoodIn uX9_gauge (va_wsS RX9 155 yX9_isNoStore uX9_isNoStore) := goodIn_r _ [6, 7, 3, 18] (by decide +kernel) (by decide +kernel)
set_option maxRecDepth 20000 in
theorem gu_X9_gauge_X9_lacksStore_160 : GoodIn uX9_gauge (wsV RX9 160 RX9 yX9_lacksStore uX9_lacksStore) := goodIn_r _ [8, 9, 10, 3, 19, 20, 23, 24, 25, 26, 27, 28, 29, 30, 31, 32, 33, 34, 35, 36, 37, 38, 39, 40] (by decide +kernel) (by decide +kernel)
set_option maxRecDepth 20000 in
theorem gu_X9_gauge_X9_lacksItem_131 : GoodIn uX9_gauge (wsV RX9 131 RX9 yX9_lacksItem uX9_lacksItem) := goodIn_r _ [11, 12, 13, 3, 21, 20, 23, 24, 25, 26, 27, 28, 29, 30, 31, 32, 33, 34, 35, 36, 37, 38, 39, 40] (by decide +kernel) (by decide +kernel)
set_option maxRecDepth 20000 in
theorem gu_X9_gauge_X9_isNoItem_127 : GoodIn uX9_gauge (va_wsS RX9 127 yX9_isNoItem uX9_isNoItem) := goodIn_r _ [14, 15, 3, 22] (by decide +kernel) (by decide +kernel)
set_option maxHeartbeats 4000000 in
set_option maxRecDepth 100000 in
theorem c_X9_gauge (l : Launch) (D : va_G) (t : Nat → Nat) (cI cL cC : ClassId) (a0 : Nat) (a1 : Int32) (a2 : Int32) (a3 : Int32) (k_a0 : t a0 = 1) : tM l yX9_gauge uX9_gauge 1 22 D (fF cI cL cC 0 0) (fF cI cL cC 0 0) t cI cL cC [.ref a0, .int a1, .int a2, .int a3] wr0 (pI (fun r => (r = (-1) ∧ (a1.toInt < 0 ∨ 3 < a1.toInt ∨ a2.toInt < 0 ∨ 1 < a2.toInt ∨ a3.toInt < 0 ∨ (a2.toInt = 0 ∧ 39 < a3.toInt) ∨ (a2.toInt = 1 ∧ 15 < a3.toInt))) ∨ (r = (-2) ∧ 0 ≤ a1.toInt ∧ a1.toInt ≤ 3 ∧ 0 ≤ a3.toInt ∧ ((a2.toInt = 0 ∧ a3.toInt ≤ 39) ∨ (a2.toInt = 1 ∧ a3.toInt ≤ 15))))) := by
  refine tM.ofW (cc := cX9_gauge) (maxL := 4) (ret := (some .int)) (by decide) rfl (Nat.le_of_ble_eq_true rfl) ?_
  intro p e s m below meth c hx hb hr hml hown hts hlk H locs hG hK hE hS ls hl
  have hl : lv_has ls 4 [(0, .ref a0), (1, .int a1), (2, .int a2), (3, .int a3)] := hl
  skip
  refine lv_iload_n hx hb dX9_gauge_0 rfl (lv_at hl 1 rfl) ?_
  refine ty_calli ((W.runS (As := [.int a1]) (rest := []) ⟨hx, hb, hml, hown, hts⟩ (c_isNoGauge l D t cI cL cC 0 0 a1 ) (va_cwS 1 hts gu_X9_gauge_X9_isNoGauge_205 rfl rfl rfl (by decide +kernel) ⟨Nat.le_of_ble_eq_true rfl, Nat.le_of_ble_eq_true rfl⟩) (tP_S hG hE) rfl rfl hl.1 rfl (lv_room (Nat.le_of_ble_eq_true rfl)) dX9_gauge_1 ⟨Nat.le_of_ble_eq_true rfl, Nat.le_of_ble_eq_true rfl⟩)) hS (fun _ h => h) (fun r_1 H locs hp_2 hG hS o_3 => ?_)
  rcases hp_2 with ⟨rfl, hc_28⟩ | ⟨rfl, hc_29, hc_30⟩
  · skip
    refine lv_if_ne (tgt := 16) hx hb dX9_gauge_4 (by decide) (fun _ => ?_) (fun q => absurd q (by decide))
    refine lv_iconst (v := (-1)) hx hb dX9_gauge_16 (by decide) ?_
    exact ty_iret hx hb hr hlk hG hS (by first | exact Or.inl ⟨rfl, by omega⟩ | exact Or.inr ⟨rfl, by omega⟩ | exact Or.inr (Or.inl ⟨rfl, by omega⟩) | exact Or.inr (Or.inr ⟨rfl, by omega⟩) | exact ⟨rfl, by omega⟩ | omega | trivial | rfl | (exfalso; omega)) dX9_gauge_17
  · skip
    refine lv_if_ne (tgt := 16) hx hb dX9_gauge_4 (by decide) (fun q => absurd rfl q) (fun _ => ?_)
    refine lv_iload_n hx hb dX9_gauge_7 rfl (lv_at hl 2 rfl) ?_
    refine lv_pc (pc2 := 8) rfl ?_
    refine lv_iconst (v := 0) hx hb dX9_gauge_8 (by decide) ?_
    refine lv_iconst (v := 1) hx hb dX9_gauge_9 (by decide) ?_
    refine ty_calli ((W.runS (As := [.int a2, .int 0, .int 1]) (rest := []) ⟨hx, hb, hml, hown, hts⟩ (c_isOutside l D t cI cL cC 0 0 a2 0 1 0 1 (by decide) (by decide) ) (va_cwS 3 hts gu_X9_gauge_X9_isOutside_99 rfl rfl rfl (by decide +kernel) ⟨Nat.le_of_ble_eq_true rfl, Nat.le_of_ble_eq_true rfl⟩) (tP_S hG hE) rfl rfl hl.1 rfl (lv_room (Nat.le_of_ble_eq_true rfl)) dX9_gauge_10 ⟨Nat.le_of_ble_eq_true rfl, Nat.le_of_ble_eq_true rfl⟩)) hS (fun _ h => h) (fun r_4 H locs hp_5 hG hS o_6 => ?_)
    rcases hp_5 with ⟨rfl, hc_31⟩ | ⟨rfl, hc_32, hc_33⟩
    · skip
      refine lv_if_eq (tgt := 18) hx hb dX9_gauge_13 (by decide) (fun q => absurd q (by decide)) (fun _ => ?_)
      refine lv_iconst (v := (-1)) hx hb dX9_gauge_16 (by decide) ?_
      exact ty_iret hx hb hr hlk hG hS (by first | exact Or.inl ⟨rfl, by omega⟩ | exact Or.inr ⟨rfl, by omega⟩ | exact Or.inr (Or.inl ⟨rfl, by omega⟩) | exact Or.inr (Or.inr ⟨rfl, by omega⟩) | exact ⟨rfl, by omega⟩ | omega | trivial | rfl | (exfalso; omega)) dX9_gauge_17
    · skip
      refine lv_if_eq (tgt := 18) hx hb dX9_gauge_13 (by decide) (fun _ => ?_) (fun q => absurd (by decide) q)
      refine lv_iload_n hx hb dX9_gauge_18 rfl (lv_at hl 2 rfl) ?_
      refine lv_pc (pc2 := 19) rfl ?_
      refine lv_if_ne (tgt := 32) hx hb dX9_gauge_19 (by decide) (fun c_7 => ?_) (fun c_7 => ?_)
      · skip
        have c_7 : a2.toInt ≠ 0 := q_ne c_7
        refine lv_iload_n hx hb dX9_gauge_32 rfl (lv_at hl 3 rfl) ?_
        refine ty_calli ((W.runS (As := [.int a3]) (rest := []) ⟨hx, hb, hml, hown, hts⟩ (c_isNoStore l D t cI cL cC 0 0 a3 ) (va_cwS 1 hts gu_X9_gauge_X9_isNoStore_155 rfl rfl rfl (by decide +kernel) ⟨Nat.le_of_ble_eq_true rfl, Nat.le_of_ble_eq_true rfl⟩) (tP_S hG hE) rfl rfl hl.1 rfl (lv_room (Nat.le_of_ble_eq_true rfl)) dX9_gauge_33 ⟨Nat.le_of_ble_eq_true rfl, Nat.le_of_ble_eq_true rfl⟩)) hS (fun _ h => h) (fun r_8 H locs hp_9 hG hS o_10 => ?_)
        rcases hp_9 with ⟨rfl, hc_34⟩ | ⟨rfl, hc_35, hc_36⟩
        · skip
          refine lv_if_eq (tgt := 41) hx hb dX9_gauge_36 (by decide) (fun q => absurd q (by decide)) (fun _ => ?_)
          refine lv_iconst (v := (-1)) hx hb dX9_gauge_39 (by decide) ?_
          exact ty_iret hx hb hr hlk hG hS (by first | exact Or.inl ⟨rfl, by omega⟩ | exact Or.inr ⟨rfl, by omega⟩ | exact Or.inr (Or.inl ⟨rfl, by omega⟩) | exact Or.inr (Or.inr ⟨rfl, by omega⟩) | exact ⟨rfl, by omega⟩ | omega | trivial | rfl | (exfalso; omega)) dX9_gauge_40
        · skip
          refine lv_if_eq (tgt := 41) hx hb dX9_gauge_36 (by decide) (fun _ => ?_) (fun q => absurd (by decide) q)
          refine lv_iload_n hx hb dX9_gauge_41 rfl (lv_at hl 2 rfl) ?_
          refine lv_pc (pc2 := 42) rfl ?_
          refine lv_if_ne (tgt := 56) hx hb dX9_gauge_42 (by decide) (fun c_11 => ?_) (fun c_11 => ?_)
          · skip
            have c_11 : a2.toInt ≠ 0 := q_ne c_11
            refine lv_aload_n hx hb dX9_gauge_56 rfl (lv_at hl 0 rfl) ?_
            refine lv_iload_n hx hb dX9_gauge_57 rfl (lv_at hl 3 rfl) ?_
            obtain ⟨r_12, r_14, r_16, r_18, r_20, r_22, r_24, r_26, r_28, r_30, r_32, r_34, r_36, r_38, r_40, at_42, h_13, h_15, h_17, h_19, h_21, h_23, h_25, h_27, h_29, h_31, h_33, h_35, h_37, h_39, h_41⟩ := fF_o1 hG k_a0
            refine ty_calli ((W.runV (As := [.int a3]) (rest := []) ⟨hx, hb, hml, hown, hts⟩ (c_X9_lacksStore l D t cI cL cC a0 a3 k_a0) (cwV 1 hts gu_X9_gauge_X9_lacksStore_160 rfl rfl rfl (by decide +kernel) ⟨Nat.le_of_ble_eq_true rfl, Nat.le_of_ble_eq_true rfl⟩) (tP_V hG hE at_42 rfl) rfl rfl hl.1 rfl (lv_room (Nat.le_of_ble_eq_true rfl)) dX9_gauge_58 ⟨Nat.le_of_ble_eq_true rfl, Nat.le_of_ble_eq_true rfl⟩)) hS (fun _ h => h) (fun r_43 H locs hp_44 hG hS o_45 => ?_)
            have at_42 := va_at.keptC at_42 o_45 k_a0 rfl
            rcases hp_44 with rfl
            refine lv_if_eq (tgt := 67) hx hb dX9_gauge_61 (by decide) (fun q => absurd q (by decide)) (fun _ => ?_)
            refine lv_bipush (v := (-2)) hx hb dX9_gauge_64 (by decide) ?_
            exact ty_iret hx hb hr hlk hG hS (by first | exact Or.inl ⟨rfl, by omega⟩ | exact Or.inr ⟨rfl, by omega⟩ | exact Or.inr (Or.inl ⟨rfl, by omega⟩) | exact Or.inr (Or.inr ⟨rfl, by omega⟩) | exact ⟨rfl, by omega⟩ | omega | trivial | rfl | (exfalso; omega)) dX9_gauge_66
          · skip
            have c_11 : a2.toInt = 0 := q_eq c_11
            refine lv_aload_n hx hb dX9_gauge_45 rfl (lv_at hl 0 rfl) ?_
            refine lv_pc (pc2 := 46) rfl ?_
            refine lv_iload_n hx hb dX9_gauge_46 rfl (lv_at hl 3 rfl) ?_
            obtain ⟨r_46, r_48, r_50, r_52, r_54, r_56, r_58, r_60, r_62, r_64, r_66, r_68, r_70, r_72, r_74, at_76, h_47, h_49, h_51, h_53, h_55, h_57, h_59, h_61, h_63, h_65, h_67, h_69, h_71, h_73, h_75⟩ := fF_o1 hG k_a0
            refine ty_calli ((W.runV (As := [.int a3]) (rest := []) ⟨hx, hb, hml, hown, hts⟩ (c_X9_lacksItem l D t cI cL cC a0 a3 k_a0) (cwV 1 hts gu_X9_gauge_X9_lacksItem_131 rfl rfl rfl (by decide +kernel) ⟨Nat.le_of_ble_eq_true rfl, Nat.le_of_ble_eq_true rfl⟩) (tP_V hG hE at_76 rfl) rfl rfl hl.1 rfl (lv_room (Nat.le_of_ble_eq_true rfl)) dX9_gauge_47 ⟨Nat.le_of_ble_eq_true rfl, Nat.le_of_ble_eq_true rfl⟩)) hS (fun _ h => h) (fun r_77 H locs hp_78 hG hS o_79 => ?_)
            have at_76 := va_at.keptC at_76 o_79 k_a0 rfl
            rcases hp_78 with rfl
            refine lv_if_eq (tgt := 67) hx hb dX9_gauge_50 (by decide) (fun q => absurd q (by decide)) (fun _ => ?_)
            refine lv_goto (tgt := 64) hx hb dX9_gauge_53 (by decide) ?_
            refine lv_bipush (v := (-2)) hx hb dX9_gauge_64 (by decide) ?_
            exact ty_iret hx hb hr hlk hG hS (by first | exact Or.inl ⟨rfl, by omega⟩ | exact Or.inr ⟨rfl, by omega⟩ | exact Or.inr (Or.inl ⟨rfl, by omega⟩) | exact Or.inr (Or.inr ⟨rfl, by omega⟩) | exact ⟨rfl, by omega⟩ | omega | trivial | rfl | (exfalso; omega)) dX9_gauge_66
      · skip
        have c_7 : a2.toInt = 0 := q_eq c_7
        refine lv_iload_n hx hb dX9_gauge_22 rfl (lv_at hl 3 rfl) ?_
        refine ty_calli ((W.runS (As := [.int a3]) (rest := []) ⟨hx, hb, hml, hown, hts⟩ (c_isNoItem l D t cI cL cC 0 0 a3 ) (va_cwS 1 hts gu_X9_gauge_X9_isNoItem_127 rfl rfl rfl (by decide +kernel) ⟨Nat.le_of_ble_eq_true rfl, Nat.le_of_ble_eq_true rfl⟩) (tP_S hG hE) rfl rfl hl.1 rfl (lv_room (Nat.le_of_ble_eq_true rfl)) dX9_gauge_23 ⟨Nat.le_of_ble_eq_true rfl, Nat.le_of_ble_eq_true rfl⟩)) hS (fun _ h => h) (fun r_80 H locs hp_81 hG hS o_82 => ?_)
        rcases hp_81 with ⟨rfl, hc_37⟩ | ⟨rfl, hc_38, hc_39⟩
        · skip
          refine lv_pc (pc2 := 26) rfl ?_
          refine lv_if_eq (tgt := 41) hx hb dX9_gauge_26 (by decide) (fun q => absurd q (by decide)) (fun _ => ?_)
          refine lv_goto (tgt := 39) hx hb dX9_gauge_29 (by decide) ?_
          refine lv_iconst (v := (-1)) hx hb dX9_gauge_39 (by decide) ?_
          exact ty_iret hx hb hr hlk hG hS (by first | exact Or.inl ⟨rfl, by omega⟩ | exact Or.inr ⟨rfl, by omega⟩ | exact Or.inr (Or.inl ⟨rfl, by omega⟩) | exact Or.inr (Or.inr ⟨rfl, by omega⟩) | exact ⟨rfl, by omega⟩ | omega | trivial | rfl | (exfalso; omega)) dX9_gauge_40
        · skip
          refine lv_if_eq (tgt := 41) hx hb dX9_gauge_26 (by decide) (fun _ => ?_) (fun q => absurd (by decide) q)
          refine lv_iload_n hx hb dX9_gauge_41 rfl (lv_at hl 2 rfl) ?_
          refine lv_if_ne (tgt := 56) hx hb dX9_gauge_42 (by decide) (fun c_83 => ?_) (fun c_83 => ?_)
          · skip
            have c_83 : a2.toInt ≠ 0 := q_ne c_83
            refine lv_aload_n hx hb dX9_gauge_56 rfl (lv_at hl 0 rfl) ?_
            refine lv_pc (pc2 := 57) rfl ?_
            refine lv_iload_n hx hb dX9_gauge_57 rfl (lv_at hl 3 rfl) ?_
            obtain ⟨r_84, r_86, r_88, r_90, r_92, r_94, r_96, r_98, r_100, r_102, r_104, r_106, r_108, r_110, r_112, at_114, h_85, h_87, h_89, h_91, h_93, h_95, h_97, h_99, h_101, h_103, h_105, h_107, h_109, h_111, h_113⟩ := fF_o1 hG k_a0
            refine ty_calli ((W.runV (As := [.int a3]) (rest := []) ⟨hx, hb, hml, hown, hts⟩ (c_X9_lacksStore l D t cI cL cC a0 a3 k_a0) (cwV 1 hts gu_X9_gauge_X9_lacksStore_160 rfl rfl rfl (by decide +kernel) ⟨Nat.le_of_ble_eq_true rfl, Nat.le_of_ble_eq_true rfl⟩) (tP_V hG hE at_114 rfl) rfl rfl hl.1 rfl (lv_room (Nat.le_of_ble_eq_true rfl)) dX9_gauge_58 ⟨Nat.le_of_ble_eq_true rfl, Nat.le_of_ble_eq_true rfl⟩)) hS (fun _ h => h) (fun r_115 H locs hp_116 hG hS o_117 => ?_)
            have at_114 := va_at.keptC at_114 o_117 k_a0 rfl
            rcases hp_116 with rfl
            refine lv_if_eq (tgt := 67) hx hb dX9_gauge_61 (by decide) (fun q => absurd q (by decide)) (fun _ => ?_)
            refine lv_bipush (v := (-2)) hx hb dX9_gauge_64 (by decide) ?_
            exact ty_iret hx hb hr hlk hG hS (by first | exact Or.inl ⟨rfl, by omega⟩ | exact Or.inr ⟨rfl, by omega⟩ | exact Or.inr (Or.inl ⟨rfl, by omega⟩) | exact Or.inr (Or.inr ⟨rfl, by omega⟩) | exact ⟨rfl, by omega⟩ | omega | trivial | rfl | (exfalso; omega)) dX9_gauge_66
          · skip
            have c_83 : a2.toInt = 0 := q_eq c_83
            refine lv_aload_n hx hb dX9_gauge_45 rfl (lv_at hl 0 rfl) ?_
            refine lv_iload_n hx hb dX9_gauge_46 rfl (lv_at hl 3 rfl) ?_
            obtain ⟨r_118, r_120, r_122, r_124, r_126, r_128, r_130, r_132, r_134, r_136, r_138, r_140, r_142, r_144, r_146, at_148, h_119, h_121, h_123, h_125, h_127, h_129, h_131, h_133, h_135, h_137, h_139, h_141, h_143, h_145, h_147⟩ := fF_o1 hG k_a0
            refine ty_calli ((W.runV (As := [.int a3]) (rest := []) ⟨hx, hb, hml, hown, hts⟩ (c_X9_lacksItem l D t cI cL cC a0 a3 k_a0) (cwV 1 hts gu_X9_gauge_X9_lacksItem_131 rfl rfl rfl (by decide +kernel) ⟨Nat.le_of_ble_eq_true rfl, Nat.le_of_ble_eq_true rfl⟩) (tP_V hG hE at_148 rfl) rfl rfl hl.1 rfl (lv_room (Nat.le_of_ble_eq_true rfl)) dX9_gauge_47 ⟨Nat.le_of_ble_eq_true rfl, Nat.le_of_ble_eq_true rfl⟩)) hS (fun _ h => h) (fun r_149 H locs hp_150 hG hS o_151 => ?_)
            have at_148 := va_at.keptC at_148 o_151 k_a0 rfl
            rcases hp_150 with rfl
            refine lv_pc (pc2 := 50) rfl ?_
            refine lv_if_eq (tgt := 67) hx hb dX9_gauge_50 (by decide) (fun q => absurd q (by decide)) (fun _ => ?_)
            refine lv_goto (tgt := 64) hx hb dX9_gauge_53 (by decide) ?_
            refine lv_bipush (v := (-2)) hx hb dX9_gauge_64 (by decide) ?_
            exact ty_iret hx hb hr hlk hG hS (by first | exact Or.inl ⟨rfl, by omega⟩ | exact Or.inr ⟨rfl, by omega⟩ | exact Or.inr (Or.inl ⟨rfl, by omega⟩) | exact Or.inr (Or.inr ⟨rfl, by omega⟩) | exact ⟨rfl, by omega⟩ | omega | trivial | rfl | (exfalso; omega)) dX9_gauge_66

def uX9_reads : List Cond := .code yX9_reads cX9_reads 2 (some .long) :: ([.methodLink RX9 205 yX9_isNoGauge, .static yX9_isNoGauge, .initialized RX9, .constantLong RX9 158 (-1), .methodLink RX9 212 yX9_lacksGauge, .instanceMethod yX9_lacksGauge, .selects RX9 yX9_lacksGauge yX9_lacksGauge, .constantLong RX9 163 (-2), .code yX9_isNoGauge cX9_isNoGauge 1 (some .boolean), .code yX9_lacksGauge cX9_lacksGauge 2 (some .boolean), .fieldLink RX9 29 "RiverModel" "isBuilt" "Z"] ++ wsX90)
set_option maxRecDepth 20000 in
theorem gu_X9_reads_X9_isNoGauge_205 : GoodIn uX9_reads (va_wsS RX9 205 yX9_isNoGauge uX9_isNoGauge) := goodIn_r _ [1, 2, 3, 9] (by decide +kernel) (by decide +kernel)
set_option maxRecDepth 20000 in
theorem gu_X9_reads_X9_lacksGauge_212 : GoodIn uX9_reads (wsV RX9 212 RX9 yX9_lacksGauge uX9_lacksGauge) := goodIn_r _ [5, 6, 7, 3, 10, 11, 12, 13, 14, 15, 16, 17, 18, 19, 20, 21, 22, 23, 24, 25, 26, 27, 28, 29] (by decide +kernel) (by decide +kernel)
set_option maxHeartbeats 4000000 in
set_option maxRecDepth 100000 in
theorem c_X9_reads (l : Launch) (D : va_G) (t : Nat → Nat) (cI cL cC : ClassId) (a0 : Nat) (a1 : Int32) (k_a0 : t a0 = 1) : tM l yX9_reads uX9_reads 1 21 D (fF cI cL cC 0 0) (fF cI cL cC 0 0) t cI cL cC [.ref a0, .int a1] wr0 (pL (fun r => (r = (-1) ∧ (a1.toInt < 0 ∨ 3 < a1.toInt)) ∨ (r = (-2) ∧ 0 ≤ a1.toInt ∧ a1.toInt ≤ 3))) := by
  refine tM.ofW (cc := cX9_reads) (maxL := 2) (ret := (some .long)) (by decide) rfl (Nat.le_of_ble_eq_true rfl) ?_
  intro p e s m below meth c hx hb hr hml hown hts hlk H locs hG hK hE hS ls hl
  have hl : lv_has ls 2 [(0, .ref a0), (1, .int a1)] := hl
  skip
  refine lv_iload_n hx hb dX9_reads_0 rfl (lv_at hl 1 rfl) ?_
  refine ty_calli ((W.runS (As := [.int a1]) (rest := []) ⟨hx, hb, hml, hown, hts⟩ (c_isNoGauge l D t cI cL cC 0 0 a1 ) (va_cwS 1 hts gu_X9_reads_X9_isNoGauge_205 rfl rfl rfl (by decide +kernel) ⟨Nat.le_of_ble_eq_true rfl, Nat.le_of_ble_eq_true rfl⟩) (tP_S hG hE) rfl rfl hl.1 rfl (lv_room (Nat.le_of_ble_eq_true rfl)) dX9_reads_1 ⟨Nat.le_of_ble_eq_true rfl, Nat.le_of_ble_eq_true rfl⟩)) hS (fun _ h => h) (fun r_1 H locs hp_2 hG hS o_3 => ?_)
  rcases hp_2 with ⟨rfl, hc_40⟩ | ⟨rfl, hc_41, hc_42⟩
  · skip
    refine lv_if_eq (tgt := 11) hx hb dX9_reads_4 (by decide) (fun q => absurd q (by decide)) (fun _ => ?_)
    refine lv_ldc2 hx hb hown (hts (.constantLong RX9 158 (-1)) (List.mem_of_getElem? (i := 4) rfl)) dX9_reads_7 ?_
    exact ty_lret hx hb hr hlk hG hS (by first | exact Or.inl ⟨rfl, by omega⟩ | exact Or.inr ⟨rfl, by omega⟩ | exact Or.inr (Or.inl ⟨rfl, by omega⟩) | exact Or.inr (Or.inr ⟨rfl, by omega⟩) | exact ⟨rfl, by omega⟩ | omega | trivial | rfl | (exfalso; omega)) dX9_reads_10
  · skip
    refine lv_if_eq (tgt := 11) hx hb dX9_reads_4 (by decide) (fun _ => ?_) (fun q => absurd (by decide) q)
    refine lv_aload_n hx hb dX9_reads_11 rfl (lv_at hl 0 rfl) ?_
    refine lv_pc (pc2 := 12) rfl ?_
    refine lv_iload_n hx hb dX9_reads_12 rfl (lv_at hl 1 rfl) ?_
    obtain ⟨r_4, r_6, r_8, r_10, r_12, r_14, r_16, r_18, r_20, r_22, r_24, r_26, r_28, r_30, r_32, at_34, h_5, h_7, h_9, h_11, h_13, h_15, h_17, h_19, h_21, h_23, h_25, h_27, h_29, h_31, h_33⟩ := fF_o1 hG k_a0
    refine ty_calli ((W.runV (As := [.int a1]) (rest := []) ⟨hx, hb, hml, hown, hts⟩ (c_X9_lacksGauge l D t cI cL cC a0 a1 k_a0) (cwV 1 hts gu_X9_reads_X9_lacksGauge_212 rfl rfl rfl (by decide +kernel) ⟨Nat.le_of_ble_eq_true rfl, Nat.le_of_ble_eq_true rfl⟩) (tP_V hG hE at_34 rfl) rfl rfl hl.1 rfl (lv_room (Nat.le_of_ble_eq_true rfl)) dX9_reads_13 ⟨Nat.le_of_ble_eq_true rfl, Nat.le_of_ble_eq_true rfl⟩)) hS (fun _ h => h) (fun r_35 H locs hp_36 hG hS o_37 => ?_)
    have at_34 := va_at.keptC at_34 o_37 k_a0 rfl
    rcases hp_36 with rfl
    refine lv_if_ne (tgt := 29) hx hb dX9_reads_16 (by decide) (fun _ => ?_) (fun q => absurd q (by decide))
    refine lv_ldc2 hx hb hown (hts (.constantLong RX9 163 (-2)) (List.mem_of_getElem? (i := 8) rfl)) dX9_reads_29 ?_
    refine lv_goto (tgt := 47) hx hb dX9_reads_32 (by decide) ?_
    exact ty_lret hx hb hr hlk hG hS (by first | exact Or.inl ⟨rfl, by omega⟩ | exact Or.inr ⟨rfl, by omega⟩ | exact Or.inr (Or.inl ⟨rfl, by omega⟩) | exact Or.inr (Or.inr ⟨rfl, by omega⟩) | exact ⟨rfl, by omega⟩ | omega | trivial | rfl | (exfalso; omega)) dX9_reads_47

def uX9_see : List Cond := .code yX9_see cX9_see 4 (some .int) :: ([.methodLink RX9 205 yX9_isNoGauge, .static yX9_isNoGauge, .initialized RX9, .methodLink RX9 99 yX9_isOutside, .static yX9_isOutside, .constant RX9 219 (10000000), .methodLink RX9 212 yX9_lacksGauge, .instanceMethod yX9_lacksGauge, .selects RX9 yX9_lacksGauge yX9_lacksGauge, .code yX9_isNoGauge cX9_isNoGauge 1 (some .boolean), .code yX9_isOutside cX9_isOutside 3 (some .boolean), .code yX9_lacksGauge cX9_lacksGauge 2 (some .boolean), .fieldLink RX9 29 "RiverModel" "isBuilt" "Z"] ++ wsX90)
set_option maxRecDepth 20000 in
theorem gu_X9_see_X9_isNoGauge_205 : GoodIn uX9_see (va_wsS RX9 205 yX9_isNoGauge uX9_isNoGauge) := goodIn_r _ [1, 2, 3, 10] (by decide +kernel) (by decide +kernel)
set_option maxRecDepth 20000 in
theorem gu_X9_see_X9_isOutside_99 : GoodIn uX9_see (va_wsS RX9 99 yX9_isOutside uX9_isOutside) := goodIn_r _ [4, 5, 3, 11] (by decide +kernel) (by decide +kernel)
set_option maxRecDepth 20000 in
theorem gu_X9_see_X9_lacksGauge_212 : GoodIn uX9_see (wsV RX9 212 RX9 yX9_lacksGauge uX9_lacksGauge) := goodIn_r _ [7, 8, 9, 3, 12, 13, 14, 15, 16, 17, 18, 19, 20, 21, 22, 23, 24, 25, 26, 27, 28, 29, 30, 31] (by decide +kernel) (by decide +kernel)
set_option maxHeartbeats 4000000 in
set_option maxRecDepth 100000 in
theorem c_X9_see (l : Launch) (D : va_G) (t : Nat → Nat) (cI cL cC : ClassId) (a0 : Nat) (a1 : Int32) (a2 : Int32) (a3 : Int32) (k_a0 : t a0 = 1) : tM l yX9_see uX9_see 1 22 D (fF cI cL cC 0 0) (fF cI cL cC 0 0) t cI cL cC [.ref a0, .int a1, .int a2, .int a3] wr0 (pI (fun r => (r = (-100) ∧ (a1.toInt < 0 ∨ 3 < a1.toInt ∨ a2.toInt < 0 ∨ 95 < a2.toInt ∨ a3.toInt < (-1) ∨ 10000000 < a3.toInt)) ∨ (r = (-102) ∧ 0 ≤ a1.toInt ∧ a1.toInt ≤ 3 ∧ 0 ≤ a2.toInt ∧ a2.toInt ≤ 95 ∧ (-1) ≤ a3.toInt ∧ a3.toInt ≤ 10000000))) := by
  refine tM.ofW (cc := cX9_see) (maxL := 4) (ret := (some .int)) (by decide) rfl (Nat.le_of_ble_eq_true rfl) ?_
  intro p e s m below meth c hx hb hr hml hown hts hlk H locs hG hK hE hS ls hl
  have hl : lv_has ls 4 [(0, .ref a0), (1, .int a1), (2, .int a2), (3, .int a3)] := hl
  skip
  refine lv_iload_n hx hb dX9_see_0 rfl (lv_at hl 1 rfl) ?_
  refine ty_calli ((W.runS (As := [.int a1]) (rest := []) ⟨hx, hb, hml, hown, hts⟩ (c_isNoGauge l D t cI cL cC 0 0 a1 ) (va_cwS 1 hts gu_X9_see_X9_isNoGauge_205 rfl rfl rfl (by decide +kernel) ⟨Nat.le_of_ble_eq_true rfl, Nat.le_of_ble_eq_true rfl⟩) (tP_S hG hE) rfl rfl hl.1 rfl (lv_room (Nat.le_of_ble_eq_true rfl)) dX9_see_1 ⟨Nat.le_of_ble_eq_true rfl, Nat.le_of_ble_eq_true rfl⟩)) hS (fun _ h => h) (fun r_1 H locs hp_2 hG hS o_3 => ?_)
  rcases hp_2 with ⟨rfl, hc_43⟩ | ⟨rfl, hc_44, hc_45⟩
  · skip
    refine lv_if_ne (tgt := 27) hx hb dX9_see_4 (by decide) (fun _ => ?_) (fun q => absurd q (by decide))
    refine lv_bipush (v := (-100)) hx hb dX9_see_27 (by decide) ?_
    exact ty_iret hx hb hr hlk hG hS (by first | exact Or.inl ⟨rfl, by omega⟩ | exact Or.inr ⟨rfl, by omega⟩ | exact Or.inr (Or.inl ⟨rfl, by omega⟩) | exact Or.inr (Or.inr ⟨rfl, by omega⟩) | exact ⟨rfl, by omega⟩ | omega | trivial | rfl | (exfalso; omega)) dX9_see_29
  · skip
    refine lv_if_ne (tgt := 27) hx hb dX9_see_4 (by decide) (fun q => absurd rfl q) (fun _ => ?_)
    refine lv_iload_n hx hb dX9_see_7 rfl (lv_at hl 2 rfl) ?_
    refine lv_pc (pc2 := 8) rfl ?_
    refine lv_iconst (v := 0) hx hb dX9_see_8 (by decide) ?_
    refine lv_bipush (v := 95) hx hb dX9_see_9 (by decide) ?_
    refine ty_calli ((W.runS (As := [.int a2, .int 0, .int 95]) (rest := []) ⟨hx, hb, hml, hown, hts⟩ (c_isOutside l D t cI cL cC 0 0 a2 0 95 0 95 (by decide) (by decide) ) (va_cwS 3 hts gu_X9_see_X9_isOutside_99 rfl rfl rfl (by decide +kernel) ⟨Nat.le_of_ble_eq_true rfl, Nat.le_of_ble_eq_true rfl⟩) (tP_S hG hE) rfl rfl hl.1 rfl (lv_room (Nat.le_of_ble_eq_true rfl)) dX9_see_11 ⟨Nat.le_of_ble_eq_true rfl, Nat.le_of_ble_eq_true rfl⟩)) hS (fun _ h => h) (fun r_4 H locs hp_5 hG hS o_6 => ?_)
    rcases hp_5 with ⟨rfl, hc_46⟩ | ⟨rfl, hc_47, hc_48⟩
    · skip
      refine lv_if_ne (tgt := 27) hx hb dX9_see_14 (by decide) (fun _ => ?_) (fun q => absurd q (by decide))
      refine lv_bipush (v := (-100)) hx hb dX9_see_27 (by decide) ?_
      exact ty_iret hx hb hr hlk hG hS (by first | exact Or.inl ⟨rfl, by omega⟩ | exact Or.inr ⟨rfl, by omega⟩ | exact Or.inr (Or.inl ⟨rfl, by omega⟩) | exact Or.inr (Or.inr ⟨rfl, by omega⟩) | exact ⟨rfl, by omega⟩ | omega | trivial | rfl | (exfalso; omega)) dX9_see_29
    · skip
      refine lv_if_ne (tgt := 27) hx hb dX9_see_14 (by decide) (fun q => absurd rfl q) (fun _ => ?_)
      refine lv_iload_n hx hb dX9_see_17 rfl (lv_at hl 3 rfl) ?_
      refine lv_pc (pc2 := 18) rfl ?_
      refine lv_iconst (v := (-1)) hx hb dX9_see_18 (by decide) ?_
      refine lv_ldc hx hb hown (hts (.constant RX9 219 (10000000)) (List.mem_of_getElem? (i := 6) rfl)) dX9_see_19 ?_
      refine ty_calli ((W.runS (As := [.int a3, .int (-1), .int 10000000]) (rest := []) ⟨hx, hb, hml, hown, hts⟩ (c_isOutside l D t cI cL cC 0 0 a3 (-1) 10000000 (-1) 10000000 (by decide) (by decide) ) (va_cwS 3 hts gu_X9_see_X9_isOutside_99 rfl rfl rfl (by decide +kernel) ⟨Nat.le_of_ble_eq_true rfl, Nat.le_of_ble_eq_true rfl⟩) (tP_S hG hE) rfl rfl hl.1 rfl (lv_room (Nat.le_of_ble_eq_true rfl)) dX9_see_21 ⟨Nat.le_of_ble_eq_true rfl, Nat.le_of_ble_eq_true rfl⟩)) hS (fun _ h => h) (fun r_7 H locs hp_8 hG hS o_9 => ?_)
      rcases hp_8 with ⟨rfl, hc_49⟩ | ⟨rfl, hc_50, hc_51⟩
      · skip
        refine lv_if_eq (tgt := 30) hx hb dX9_see_24 (by decide) (fun q => absurd q (by decide)) (fun _ => ?_)
        refine lv_bipush (v := (-100)) hx hb dX9_see_27 (by decide) ?_
        exact ty_iret hx hb hr hlk hG hS (by first | exact Or.inl ⟨rfl, by omega⟩ | exact Or.inr ⟨rfl, by omega⟩ | exact Or.inr (Or.inl ⟨rfl, by omega⟩) | exact Or.inr (Or.inr ⟨rfl, by omega⟩) | exact ⟨rfl, by omega⟩ | omega | trivial | rfl | (exfalso; omega)) dX9_see_29
      · skip
        refine lv_if_eq (tgt := 30) hx hb dX9_see_24 (by decide) (fun _ => ?_) (fun q => absurd (by decide) q)
        refine lv_aload_n hx hb dX9_see_30 rfl (lv_at hl 0 rfl) ?_
        refine lv_pc (pc2 := 31) rfl ?_
        refine lv_iload_n hx hb dX9_see_31 rfl (lv_at hl 1 rfl) ?_
        obtain ⟨r_10, r_12, r_14, r_16, r_18, r_20, r_22, r_24, r_26, r_28, r_30, r_32, r_34, r_36, r_38, at_40, h_11, h_13, h_15, h_17, h_19, h_21, h_23, h_25, h_27, h_29, h_31, h_33, h_35, h_37, h_39⟩ := fF_o1 hG k_a0
        refine ty_calli ((W.runV (As := [.int a1]) (rest := []) ⟨hx, hb, hml, hown, hts⟩ (c_X9_lacksGauge l D t cI cL cC a0 a1 k_a0) (cwV 1 hts gu_X9_see_X9_lacksGauge_212 rfl rfl rfl (by decide +kernel) ⟨Nat.le_of_ble_eq_true rfl, Nat.le_of_ble_eq_true rfl⟩) (tP_V hG hE at_40 rfl) rfl rfl hl.1 rfl (lv_room (Nat.le_of_ble_eq_true rfl)) dX9_see_32 ⟨Nat.le_of_ble_eq_true rfl, Nat.le_of_ble_eq_true rfl⟩)) hS (fun _ h => h) (fun r_41 H locs hp_42 hG hS o_43 => ?_)
        have at_40 := va_at.keptC at_40 o_43 k_a0 rfl
        rcases hp_42 with rfl
        refine lv_if_eq (tgt := 43) hx hb dX9_see_35 (by decide) (fun q => absurd q (by decide)) (fun _ => ?_)
        refine lv_bipush (v := (-102)) hx hb dX9_see_38 (by decide) ?_
        refine lv_goto (tgt := 53) hx hb dX9_see_40 (by decide) ?_
        exact ty_iret hx hb hr hlk hG hS (by first | exact Or.inl ⟨rfl, by omega⟩ | exact Or.inr ⟨rfl, by omega⟩ | exact Or.inr (Or.inl ⟨rfl, by omega⟩) | exact Or.inr (Or.inr ⟨rfl, by omega⟩) | exact ⟨rfl, by omega⟩ | omega | trivial | rfl | (exfalso; omega)) dX9_see_53

def uX9_knob : List Cond := .code yX9_knob cX9_knob 7 (some .int) :: ([.methodLink RX9 228 yX9_isNoKnob, .static yX9_isNoKnob, .initialized RX9, .methodLink RX9 127 yX9_isNoItem, .static yX9_isNoItem, .methodLink RX9 99 yX9_isOutside, .static yX9_isOutside, .constant RX9 231 (1000000), .methodLink RX9 131 yX9_lacksItem, .instanceMethod yX9_lacksItem, .selects RX9 yX9_lacksItem yX9_lacksItem, .code yX9_isNoKnob cX9_isNoKnob 1 (some .boolean), .code yX9_isNoItem cX9_isNoItem 1 (some .boolean), .code yX9_isOutside cX9_isOutside 3 (some .boolean), .code yX9_lacksItem cX9_lacksItem 2 (some .boolean), .fieldLink RX9 29 "RiverModel" "isBuilt" "Z"] ++ wsX90)
set_option maxRecDepth 20000 in
theorem gu_X9_knob_X9_isNoKnob_228 : GoodIn uX9_knob (va_wsS RX9 228 yX9_isNoKnob uX9_isNoKnob) := goodIn_r _ [1, 2, 3, 12] (by decide +kernel) (by decide +kernel)
set_option maxRecDepth 20000 in
theorem gu_X9_knob_X9_isNoItem_127 : GoodIn uX9_knob (va_wsS RX9 127 yX9_isNoItem uX9_isNoItem) := goodIn_r _ [4, 5, 3, 13] (by decide +kernel) (by decide +kernel)
set_option maxRecDepth 20000 in
theorem gu_X9_knob_X9_isOutside_99 : GoodIn uX9_knob (va_wsS RX9 99 yX9_isOutside uX9_isOutside) := goodIn_r _ [6, 7, 3, 14] (by decide +kernel) (by decide +kernel)
set_option maxRecDepth 20000 in
theorem gu_X9_knob_X9_lacksItem_131 : GoodIn uX9_knob (wsV RX9 131 RX9 yX9_lacksItem uX9_lacksItem) := goodIn_r _ [9, 10, 11, 3, 15, 16, 17, 18, 19, 20, 21, 22, 23, 24, 25, 26, 27, 28, 29, 30, 31, 32, 33, 34] (by decide +kernel) (by decide +kernel)
set_option maxHeartbeats 4000000 in
set_option maxRecDepth 100000 in
theorem c_X9_knob (l : Launch) (D : va_G) (t : Nat → Nat) (cI cL cC : ClassId) (a0 : Nat) (a1 : Int32) (a2 : Int32) (a3 : Int32) (a4 : Int32) (a5 : Int32) (a6 : Int32) (k_a0 : t a0 = 1) : tM l yX9_knob uX9_knob 1 22 D (fF cI cL cC 0 0) (fF cI cL cC 0 0) t cI cL cC [.ref a0, .int a1, .int a2, .int a3, .int a4, .int a5, .int a6] wr0 (pI (fun r => (r = (-1) ∧ (a1.toInt < 0 ∨ 1 < a1.toInt ∨ a2.toInt < 0 ∨ 39 < a2.toInt ∨ a3.toInt < 0 ∨ 2 < a3.toInt ∨ a4.toInt < 0 ∨ 1000000 < a4.toInt ∨ a5.toInt < 1 ∨ 1000000 < a5.toInt ∨ a6.toInt < 0 ∨ 16 < a6.toInt)) ∨ (r = (-2) ∧ 0 ≤ a1.toInt ∧ a1.toInt ≤ 1 ∧ 0 ≤ a2.toInt ∧ a2.toInt ≤ 39 ∧ 0 ≤ a3.toInt ∧ a3.toInt ≤ 2 ∧ 0 ≤ a4.toInt ∧ a4.toInt ≤ 1000000 ∧ 1 ≤ a5.toInt ∧ a5.toInt ≤ 1000000 ∧ 0 ≤ a6.toInt ∧ a6.toInt ≤ 16))) := by
  refine tM.ofW (cc := cX9_knob) (maxL := 7) (ret := (some .int)) (by decide) rfl (Nat.le_of_ble_eq_true rfl) ?_
  intro p e s m below meth c hx hb hr hml hown hts hlk H locs hG hK hE hS ls hl
  have hl : lv_has ls 7 [(0, .ref a0), (1, .int a1), (2, .int a2), (3, .int a3), (4, .int a4), (5, .int a5), (6, .int a6)] := hl
  skip
  refine lv_iload_n hx hb dX9_knob_0 rfl (lv_at hl 1 rfl) ?_
  refine ty_calli ((W.runS (As := [.int a1]) (rest := []) ⟨hx, hb, hml, hown, hts⟩ (c_isNoKnob l D t cI cL cC 0 0 a1 ) (va_cwS 1 hts gu_X9_knob_X9_isNoKnob_228 rfl rfl rfl (by decide +kernel) ⟨Nat.le_of_ble_eq_true rfl, Nat.le_of_ble_eq_true rfl⟩) (tP_S hG hE) rfl rfl hl.1 rfl (lv_room (Nat.le_of_ble_eq_true rfl)) dX9_knob_1 ⟨Nat.le_of_ble_eq_true rfl, Nat.le_of_ble_eq_true rfl⟩)) hS (fun _ h => h) (fun r_1 H locs hp_2 hG hS o_3 => ?_)
  rcases hp_2 with ⟨rfl, hc_52⟩ | ⟨rfl, hc_53, hc_54⟩
  · skip
    refine lv_if_ne (tgt := 23) hx hb dX9_knob_4 (by decide) (fun _ => ?_) (fun q => absurd q (by decide))
    refine lv_iconst (v := (-1)) hx hb dX9_knob_23 (by decide) ?_
    exact ty_iret hx hb hr hlk hG hS (by first | exact Or.inl ⟨rfl, by omega⟩ | exact Or.inr ⟨rfl, by omega⟩ | exact Or.inr (Or.inl ⟨rfl, by omega⟩) | exact Or.inr (Or.inr ⟨rfl, by omega⟩) | exact ⟨rfl, by omega⟩ | omega | trivial | rfl | (exfalso; omega)) dX9_knob_24
  · skip
    refine lv_if_ne (tgt := 23) hx hb dX9_knob_4 (by decide) (fun q => absurd rfl q) (fun _ => ?_)
    refine lv_iload_n hx hb dX9_knob_7 rfl (lv_at hl 2 rfl) ?_
    refine lv_pc (pc2 := 8) rfl ?_
    refine ty_calli ((W.runS (As := [.int a2]) (rest := []) ⟨hx, hb, hml, hown, hts⟩ (c_isNoItem l D t cI cL cC 0 0 a2 ) (va_cwS 1 hts gu_X9_knob_X9_isNoItem_127 rfl rfl rfl (by decide +kernel) ⟨Nat.le_of_ble_eq_true rfl, Nat.le_of_ble_eq_true rfl⟩) (tP_S hG hE) rfl rfl hl.1 rfl (lv_room (Nat.le_of_ble_eq_true rfl)) dX9_knob_8 ⟨Nat.le_of_ble_eq_true rfl, Nat.le_of_ble_eq_true rfl⟩)) hS (fun _ h => h) (fun r_4 H locs hp_5 hG hS o_6 => ?_)
    rcases hp_5 with ⟨rfl, hc_55⟩ | ⟨rfl, hc_56, hc_57⟩
    · skip
      refine lv_if_ne (tgt := 23) hx hb dX9_knob_11 (by decide) (fun _ => ?_) (fun q => absurd q (by decide))
      refine lv_iconst (v := (-1)) hx hb dX9_knob_23 (by decide) ?_
      exact ty_iret hx hb hr hlk hG hS (by first | exact Or.inl ⟨rfl, by omega⟩ | exact Or.inr ⟨rfl, by omega⟩ | exact Or.inr (Or.inl ⟨rfl, by omega⟩) | exact Or.inr (Or.inr ⟨rfl, by omega⟩) | exact ⟨rfl, by omega⟩ | omega | trivial | rfl | (exfalso; omega)) dX9_knob_24
    · skip
      refine lv_if_ne (tgt := 23) hx hb dX9_knob_11 (by decide) (fun q => absurd rfl q) (fun _ => ?_)
      refine lv_iload_n hx hb dX9_knob_14 rfl (lv_at hl 3 rfl) ?_
      refine lv_iconst (v := 0) hx hb dX9_knob_15 (by decide) ?_
      refine lv_iconst (v := 2) hx hb dX9_knob_16 (by decide) ?_
      refine lv_pc (pc2 := 17) rfl ?_
      refine ty_calli ((W.runS (As := [.int a3, .int 0, .int 2]) (rest := []) ⟨hx, hb, hml, hown, hts⟩ (c_isOutside l D t cI cL cC 0 0 a3 0 2 0 2 (by decide) (by decide) ) (va_cwS 3 hts gu_X9_knob_X9_isOutside_99 rfl rfl rfl (by decide +kernel) ⟨Nat.le_of_ble_eq_true rfl, Nat.le_of_ble_eq_true rfl⟩) (tP_S hG hE) rfl rfl hl.1 rfl (lv_room (Nat.le_of_ble_eq_true rfl)) dX9_knob_17 ⟨Nat.le_of_ble_eq_true rfl, Nat.le_of_ble_eq_true rfl⟩)) hS (fun _ h => h) (fun r_7 H locs hp_8 hG hS o_9 => ?_)
      rcases hp_8 with ⟨rfl, hc_58⟩ | ⟨rfl, hc_59, hc_60⟩
      · skip
        refine lv_if_eq (tgt := 25) hx hb dX9_knob_20 (by decide) (fun q => absurd q (by decide)) (fun _ => ?_)
        refine lv_iconst (v := (-1)) hx hb dX9_knob_23 (by decide) ?_
        exact ty_iret hx hb hr hlk hG hS (by first | exact Or.inl ⟨rfl, by omega⟩ | exact Or.inr ⟨rfl, by omega⟩ | exact Or.inr (Or.inl ⟨rfl, by omega⟩) | exact Or.inr (Or.inr ⟨rfl, by omega⟩) | exact ⟨rfl, by omega⟩ | omega | trivial | rfl | (exfalso; omega)) dX9_knob_24
      · skip
        refine lv_if_eq (tgt := 25) hx hb dX9_knob_20 (by decide) (fun _ => ?_) (fun q => absurd (by decide) q)
        refine lv_iload hx hb dX9_knob_25 (lv_at hl 4 rfl) ?_
        refine lv_iconst (v := 0) hx hb dX9_knob_27 (by decide) ?_
        refine lv_ldc hx hb hown (hts (.constant RX9 231 (1000000)) (List.mem_of_getElem? (i := 8) rfl)) dX9_knob_28 ?_
        refine lv_pc (pc2 := 30) rfl ?_
        refine ty_calli ((W.runS (As := [.int a4, .int 0, .int 1000000]) (rest := []) ⟨hx, hb, hml, hown, hts⟩ (c_isOutside l D t cI cL cC 0 0 a4 0 1000000 0 1000000 (by decide) (by decide) ) (va_cwS 3 hts gu_X9_knob_X9_isOutside_99 rfl rfl rfl (by decide +kernel) ⟨Nat.le_of_ble_eq_true rfl, Nat.le_of_ble_eq_true rfl⟩) (tP_S hG hE) rfl rfl hl.1 rfl (lv_room (Nat.le_of_ble_eq_true rfl)) dX9_knob_30 ⟨Nat.le_of_ble_eq_true rfl, Nat.le_of_ble_eq_true rfl⟩)) hS (fun _ h => h) (fun r_10 H locs hp_11 hG hS o_12 => ?_)
        rcases hp_11 with ⟨rfl, hc_61⟩ | ⟨rfl, hc_62, hc_63⟩
        · skip
          refine lv_if_ne (tgt := 58) hx hb dX9_knob_33 (by decide) (fun _ => ?_) (fun q => absurd q (by decide))
          refine lv_iconst (v := (-1)) hx hb dX9_knob_58 (by decide) ?_
          exact ty_iret hx hb hr hlk hG hS (by first | exact Or.inl ⟨rfl, by omega⟩ | exact Or.inr ⟨rfl, by omega⟩ | exact Or.inr (Or.inl ⟨rfl, by omega⟩) | exact Or.inr (Or.inr ⟨rfl, by omega⟩) | exact ⟨rfl, by omega⟩ | omega | trivial | rfl | (exfalso; omega)) dX9_knob_59
        · skip
          refine lv_if_ne (tgt := 58) hx hb dX9_knob_33 (by decide) (fun q => absurd rfl q) (fun _ => ?_)
          refine lv_iload hx hb dX9_knob_36 (lv_at hl 5 rfl) ?_
          refine lv_iconst (v := 1) hx hb dX9_knob_38 (by decide) ?_
          refine lv_ldc hx hb hown (hts (.constant RX9 231 (1000000)) (List.mem_of_getElem? (i := 8) rfl)) dX9_knob_39 ?_
          refine lv_pc (pc2 := 41) rfl ?_
          refine ty_calli ((W.runS (As := [.int a5, .int 1, .int 1000000]) (rest := []) ⟨hx, hb, hml, hown, hts⟩ (c_isOutside l D t cI cL cC 0 0 a5 1 1000000 1 1000000 (by decide) (by decide) ) (va_cwS 3 hts gu_X9_knob_X9_isOutside_99 rfl rfl rfl (by decide +kernel) ⟨Nat.le_of_ble_eq_true rfl, Nat.le_of_ble_eq_true rfl⟩) (tP_S hG hE) rfl rfl hl.1 rfl (lv_room (Nat.le_of_ble_eq_true rfl)) dX9_knob_41 ⟨Nat.le_of_ble_eq_true rfl, Nat.le_of_ble_eq_true rfl⟩)) hS (fun _ h => h) (fun r_13 H locs hp_14 hG hS o_15 => ?_)
          rcases hp_14 with ⟨rfl, hc_64⟩ | ⟨rfl, hc_65, hc_66⟩
          · skip
            refine lv_if_ne (tgt := 58) hx hb dX9_knob_44 (by decide) (fun _ => ?_) (fun q => absurd q (by decide))
            refine lv_iconst (v := (-1)) hx hb dX9_knob_58 (by decide) ?_
            exact ty_iret hx hb hr hlk hG hS (by first | exact Or.inl ⟨rfl, by omega⟩ | exact Or.inr ⟨rfl, by omega⟩ | exact Or.inr (Or.inl ⟨rfl, by omega⟩) | exact Or.inr (Or.inr ⟨rfl, by omega⟩) | exact ⟨rfl, by omega⟩ | omega | trivial | rfl | (exfalso; omega)) dX9_knob_59
          · skip
            refine lv_if_ne (tgt := 58) hx hb dX9_knob_44 (by decide) (fun q => absurd rfl q) (fun _ => ?_)
            refine lv_iload hx hb dX9_knob_47 (lv_at hl 6 rfl) ?_
            refine lv_iconst (v := 0) hx hb dX9_knob_49 (by decide) ?_
            refine lv_bipush (v := 16) hx hb dX9_knob_50 (by decide) ?_
            refine lv_pc (pc2 := 52) rfl ?_
            refine ty_calli ((W.runS (As := [.int a6, .int 0, .int 16]) (rest := []) ⟨hx, hb, hml, hown, hts⟩ (c_isOutside l D t cI cL cC 0 0 a6 0 16 0 16 (by decide) (by decide) ) (va_cwS 3 hts gu_X9_knob_X9_isOutside_99 rfl rfl rfl (by decide +kernel) ⟨Nat.le_of_ble_eq_true rfl, Nat.le_of_ble_eq_true rfl⟩) (tP_S hG hE) rfl rfl hl.1 rfl (lv_room (Nat.le_of_ble_eq_true rfl)) dX9_knob_52 ⟨Nat.le_of_ble_eq_true rfl, Nat.le_of_ble_eq_true rfl⟩)) hS (fun _ h => h) (fun r_16 H locs hp_17 hG hS o_18 => ?_)
            rcases hp_17 with ⟨rfl, hc_67⟩ | ⟨rfl, hc_68, hc_69⟩
            · skip
              refine lv_if_eq (tgt := 60) hx hb dX9_knob_55 (by decide) (fun q => absurd q (by decide)) (fun _ => ?_)
              refine lv_iconst (v := (-1)) hx hb dX9_knob_58 (by decide) ?_
              exact ty_iret hx hb hr hlk hG hS (by first | exact Or.inl ⟨rfl, by omega⟩ | exact Or.inr ⟨rfl, by omega⟩ | exact Or.inr (Or.inl ⟨rfl, by omega⟩) | exact Or.inr (Or.inr ⟨rfl, by omega⟩) | exact ⟨rfl, by omega⟩ | omega | trivial | rfl | (exfalso; omega)) dX9_knob_59
            · skip
              refine lv_if_eq (tgt := 60) hx hb dX9_knob_55 (by decide) (fun _ => ?_) (fun q => absurd (by decide) q)
              refine lv_aload_n hx hb dX9_knob_60 rfl (lv_at hl 0 rfl) ?_
              refine lv_iload_n hx hb dX9_knob_61 rfl (lv_at hl 2 rfl) ?_
              obtain ⟨r_19, r_21, r_23, r_25, r_27, r_29, r_31, r_33, r_35, r_37, r_39, r_41, r_43, r_45, r_47, at_49, h_20, h_22, h_24, h_26, h_28, h_30, h_32, h_34, h_36, h_38, h_40, h_42, h_44, h_46, h_48⟩ := fF_o1 hG k_a0
              refine ty_calli ((W.runV (As := [.int a2]) (rest := []) ⟨hx, hb, hml, hown, hts⟩ (c_X9_lacksItem l D t cI cL cC a0 a2 k_a0) (cwV 1 hts gu_X9_knob_X9_lacksItem_131 rfl rfl rfl (by decide +kernel) ⟨Nat.le_of_ble_eq_true rfl, Nat.le_of_ble_eq_true rfl⟩) (tP_V hG hE at_49 rfl) rfl rfl hl.1 rfl (lv_room (Nat.le_of_ble_eq_true rfl)) dX9_knob_62 ⟨Nat.le_of_ble_eq_true rfl, Nat.le_of_ble_eq_true rfl⟩)) hS (fun _ h => h) (fun r_50 H locs hp_51 hG hS o_52 => ?_)
              have at_49 := va_at.keptC at_49 o_52 k_a0 rfl
              rcases hp_51 with rfl
              refine lv_pc (pc2 := 65) rfl ?_
              refine lv_if_ne (tgt := 80) hx hb dX9_knob_65 (by decide) (fun _ => ?_) (fun q => absurd q (by decide))
              refine lv_bipush (v := (-2)) hx hb dX9_knob_80 (by decide) ?_
              exact ty_iret hx hb hr hlk hG hS (by first | exact Or.inl ⟨rfl, by omega⟩ | exact Or.inr ⟨rfl, by omega⟩ | exact Or.inr (Or.inl ⟨rfl, by omega⟩) | exact Or.inr (Or.inr ⟨rfl, by omega⟩) | exact ⟨rfl, by omega⟩ | omega | trivial | rfl | (exfalso; omega)) dX9_knob_82

def uX9_fits : List Cond := .code yX9_fits cX9_fits 4 (some .int) :: ([.fieldLink RX9 29 "RiverModel" "isBuilt" "Z"] ++ wsX90)
set_option maxHeartbeats 4000000 in
set_option maxRecDepth 100000 in
theorem c_X9_fits (l : Launch) (D : va_G) (t : Nat → Nat) (cI cL cC : ClassId) (a0 : Nat) (k_a0 : t a0 = 1) : tM l yX9_fits uX9_fits 0 0 D (fF cI cL cC 0 0) (fF cI cL cC 0 0) t cI cL cC [.ref a0] wr0 (pI (fun r => r = (-2))) := by
  refine tM.ofW (cc := cX9_fits) (maxL := 4) (ret := (some .int)) (by decide) rfl (Nat.le_of_ble_eq_true rfl) ?_
  intro p e s m below meth c hx hb hr hml hown hts hlk H locs hG hK hE hS ls hl
  have hl : lv_has ls 4 [(0, .ref a0)] := hl
  have in9 : ∀ w ∈ wsX90, w ∈ uX9_fits := fun w h => List.mem_cons_of_mem _ (List.mem_append_right _ h)
  refine lv_aload_n hx hb dX9_fits_0 rfl (lv_at hl 0 rfl) ?_
  obtain ⟨r_1, r_3, r_5, r_7, r_9, r_11, r_13, r_15, r_17, r_19, r_21, r_23, r_25, r_27, r_29, at_31, h_2, h_4, h_6, h_8, h_10, h_12, h_14, h_16, h_18, h_20, h_22, h_24, h_26, h_28, h_30⟩ := fF_o1 hG k_a0
  refine va_get (D := D) (ci := 8) (v := .int 0) (C := RX9) (T := TX9) (N := 18) hx hb hts in9 hown hK (va_one at_31) 0 rfl rfl 4 (by decide) (hts (.fieldLink RX9 29 "RiverModel" "isBuilt" "Z") (List.mem_of_getElem? (i := 1) rfl)) (fun _ h9 => h9) rfl dX9_fits_1 ?_
  refine lv_if_ne (tgt := 10) hx hb dX9_fits_4 (by decide) (fun q => absurd rfl q) (fun _ => ?_)
  refine lv_bipush (v := (-2)) hx hb dX9_fits_7 (by decide) ?_
  exact ty_iret hx hb hr hlk hG hS (by first | exact Or.inl ⟨rfl, by omega⟩ | exact Or.inr ⟨rfl, by omega⟩ | exact Or.inr (Or.inl ⟨rfl, by omega⟩) | exact Or.inr (Or.inr ⟨rfl, by omega⟩) | exact ⟨rfl, by omega⟩ | omega | trivial | rfl | (exfalso; omega)) dX9_fits_9

def uX9_fit : List Cond := .code yX9_fit cX9_fit 4 (some .int) :: ([.methodLink RX9 228 yX9_isNoKnob, .static yX9_isNoKnob, .initialized RX9, .fieldLink RX9 29 "RiverModel" "isBuilt" "Z", .code yX9_isNoKnob cX9_isNoKnob 1 (some .boolean)] ++ wsX90)
set_option maxRecDepth 20000 in
theorem gu_X9_fit_X9_isNoKnob_228 : GoodIn uX9_fit (va_wsS RX9 228 yX9_isNoKnob uX9_isNoKnob) := goodIn_r _ [1, 2, 3, 5] (by decide +kernel) (by decide +kernel)
set_option maxHeartbeats 4000000 in
set_option maxRecDepth 100000 in
theorem c_X9_fit (l : Launch) (D : va_G) (t : Nat → Nat) (cI cL cC : ClassId) (a0 : Nat) (a1 : Int32) (a2 : Int32) (k_a0 : t a0 = 1) : tM l yX9_fit uX9_fit 1 20 D (fF cI cL cC 0 0) (fF cI cL cC 0 0) t cI cL cC [.ref a0, .int a1, .int a2] wr0 (pI (fun r => (r = (-1) ∧ (a1.toInt < 0 ∨ a2.toInt < 0 ∨ 1 < a2.toInt)) ∨ (r = (-2) ∧ 0 ≤ a1.toInt ∧ 0 ≤ a2.toInt ∧ a2.toInt ≤ 1))) := by
  refine tM.ofW (cc := cX9_fit) (maxL := 4) (ret := (some .int)) (by decide) rfl (Nat.le_of_ble_eq_true rfl) ?_
  intro p e s m below meth c hx hb hr hml hown hts hlk H locs hG hK hE hS ls hl
  have hl : lv_has ls 4 [(0, .ref a0), (1, .int a1), (2, .int a2)] := hl
  have in9 : ∀ w ∈ wsX90, w ∈ uX9_fit := fun w h => List.mem_cons_of_mem _ (List.mem_append_right _ h)
  refine lv_iload_n hx hb dX9_fit_0 rfl (lv_at hl 1 rfl) ?_
  refine lv_if_lt (tgt := 11) hx hb dX9_fit_1 (by decide) (fun c_1 => ?_) (fun c_1 => ?_)
  · skip
    have c_1 : a1.toInt < 0 := q_lt c_1
    refine lv_iconst (v := (-1)) hx hb dX9_fit_11 (by decide) ?_
    exact ty_iret hx hb hr hlk hG hS (by first | exact Or.inl ⟨rfl, by omega⟩ | exact Or.inr ⟨rfl, by omega⟩ | exact Or.inr (Or.inl ⟨rfl, by omega⟩) | exact Or.inr (Or.inr ⟨rfl, by omega⟩) | exact ⟨rfl, by omega⟩ | omega | trivial | rfl | (exfalso; omega)) dX9_fit_12
  · skip
    have c_1 : 0 ≤ a1.toInt := q_nlt c_1
    refine lv_iload_n hx hb dX9_fit_4 rfl (lv_at hl 2 rfl) ?_
    refine ty_calli ((W.runS (As := [.int a2]) (rest := []) ⟨hx, hb, hml, hown, hts⟩ (c_isNoKnob l D t cI cL cC 0 0 a2 ) (va_cwS 1 hts gu_X9_fit_X9_isNoKnob_228 rfl rfl rfl (by decide +kernel) ⟨Nat.le_of_ble_eq_true rfl, Nat.le_of_ble_eq_true rfl⟩) (tP_S hG hE) rfl rfl hl.1 rfl (lv_room (Nat.le_of_ble_eq_true rfl)) dX9_fit_5 ⟨Nat.le_of_ble_eq_true rfl, Nat.le_of_ble_eq_true rfl⟩)) hS (fun _ h => h) (fun r_2 H locs hp_3 hG hS o_4 => ?_)
    rcases hp_3 with ⟨rfl, hc_70⟩ | ⟨rfl, hc_71, hc_72⟩
    · skip
      refine lv_if_eq (tgt := 13) hx hb dX9_fit_8 (by decide) (fun q => absurd q (by decide)) (fun _ => ?_)
      refine lv_pc (pc2 := 11) rfl ?_
      refine lv_iconst (v := (-1)) hx hb dX9_fit_11 (by decide) ?_
      exact ty_iret hx hb hr hlk hG hS (by first | exact Or.inl ⟨rfl, by omega⟩ | exact Or.inr ⟨rfl, by omega⟩ | exact Or.inr (Or.inl ⟨rfl, by omega⟩) | exact Or.inr (Or.inr ⟨rfl, by omega⟩) | exact ⟨rfl, by omega⟩ | omega | trivial | rfl | (exfalso; omega)) dX9_fit_12
    · skip
      refine lv_if_eq (tgt := 13) hx hb dX9_fit_8 (by decide) (fun _ => ?_) (fun q => absurd (by decide) q)
      refine lv_aload_n hx hb dX9_fit_13 rfl (lv_at hl 0 rfl) ?_
      obtain ⟨r_5, r_7, r_9, r_11, r_13, r_15, r_17, r_19, r_21, r_23, r_25, r_27, r_29, r_31, r_33, at_35, h_6, h_8, h_10, h_12, h_14, h_16, h_18, h_20, h_22, h_24, h_26, h_28, h_30, h_32, h_34⟩ := fF_o1 hG k_a0
      refine va_get (D := D) (ci := 8) (v := .int 0) (C := RX9) (T := TX9) (N := 18) hx hb hts in9 hown hK (va_one at_35) 0 rfl rfl 4 (by decide) (hts (.fieldLink RX9 29 "RiverModel" "isBuilt" "Z") (List.mem_of_getElem? (i := 4) rfl)) (fun _ h9 => h9) rfl dX9_fit_14 ?_
      refine lv_if_ne (tgt := 23) hx hb dX9_fit_17 (by decide) (fun q => absurd rfl q) (fun _ => ?_)
      refine lv_bipush (v := (-2)) hx hb dX9_fit_20 (by decide) ?_
      exact ty_iret hx hb hr hlk hG hS (by first | exact Or.inl ⟨rfl, by omega⟩ | exact Or.inr ⟨rfl, by omega⟩ | exact Or.inr (Or.inl ⟨rfl, by omega⟩) | exact Or.inr (Or.inr ⟨rfl, by omega⟩) | exact ⟨rfl, by omega⟩ | omega | trivial | rfl | (exfalso; omega)) dX9_fit_22

def uX9_take : List Cond := .code yX9_take cX9_take 2 (some .int) :: ([.fieldLink RX9 29 "RiverModel" "isBuilt" "Z"] ++ wsX90)
set_option maxHeartbeats 4000000 in
set_option maxRecDepth 100000 in
theorem c_X9_take (l : Launch) (D : va_G) (t : Nat → Nat) (cI cL cC : ClassId) (a0 : Nat) (a1 : Int32) (k_a0 : t a0 = 1) : tM l yX9_take uX9_take 0 0 D (fF cI cL cC 0 0) (fF cI cL cC 0 0) t cI cL cC [.ref a0, .int a1] wr0 (pI (fun r => (r = (-1) ∧ (a1.toInt < 0)) ∨ (r = (-2) ∧ 0 ≤ a1.toInt))) := by
  refine tM.ofW (cc := cX9_take) (maxL := 2) (ret := (some .int)) (by decide) rfl (Nat.le_of_ble_eq_true rfl) ?_
  intro p e s m below meth c hx hb hr hml hown hts hlk H locs hG hK hE hS ls hl
  have hl : lv_has ls 2 [(0, .ref a0), (1, .int a1)] := hl
  have in9 : ∀ w ∈ wsX90, w ∈ uX9_take := fun w h => List.mem_cons_of_mem _ (List.mem_append_right _ h)
  refine lv_iload_n hx hb dX9_take_0 rfl (lv_at hl 1 rfl) ?_
  refine lv_if_ge (tgt := 6) hx hb dX9_take_1 (by decide) (fun c_1 => ?_) (fun c_1 => ?_)
  · skip
    have c_1 : 0 ≤ a1.toInt := q_le c_1
    refine lv_aload_n hx hb dX9_take_6 rfl (lv_at hl 0 rfl) ?_
    obtain ⟨r_2, r_4, r_6, r_8, r_10, r_12, r_14, r_16, r_18, r_20, r_22, r_24, r_26, r_28, r_30, at_32, h_3, h_5, h_7, h_9, h_11, h_13, h_15, h_17, h_19, h_21, h_23, h_25, h_27, h_29, h_31⟩ := fF_o1 hG k_a0
    refine va_get (D := D) (ci := 8) (v := .int 0) (C := RX9) (T := TX9) (N := 18) hx hb hts in9 hown hK (va_one at_32) 0 rfl rfl 4 (by decide) (hts (.fieldLink RX9 29 "RiverModel" "isBuilt" "Z") (List.mem_of_getElem? (i := 1) rfl)) (fun _ h9 => h9) rfl dX9_take_7 ?_
    refine lv_if_ne (tgt := 16) hx hb dX9_take_10 (by decide) (fun q => absurd rfl q) (fun _ => ?_)
    refine lv_bipush (v := (-2)) hx hb dX9_take_13 (by decide) ?_
    exact ty_iret hx hb hr hlk hG hS (by first | exact Or.inl ⟨rfl, by omega⟩ | exact Or.inr ⟨rfl, by omega⟩ | exact Or.inr (Or.inl ⟨rfl, by omega⟩) | exact Or.inr (Or.inr ⟨rfl, by omega⟩) | exact ⟨rfl, by omega⟩ | omega | trivial | rfl | (exfalso; omega)) dX9_take_15
  · skip
    have c_1 : a1.toInt < 0 := q_nle c_1
    refine lv_pc (pc2 := 4) rfl ?_
    refine lv_iconst (v := (-1)) hx hb dX9_take_4 (by decide) ?_
    exact ty_iret hx hb hr hlk hG hS (by first | exact Or.inl ⟨rfl, by omega⟩ | exact Or.inr ⟨rfl, by omega⟩ | exact Or.inr (Or.inl ⟨rfl, by omega⟩) | exact Or.inr (Or.inr ⟨rfl, by omega⟩) | exact ⟨rfl, by omega⟩ | omega | trivial | rfl | (exfalso; omega)) dX9_take_5

def uX9_chance : List Cond := .code yX9_chance cX9_chance 5 (some .int) :: ([.methodLink RX9 205 yX9_isNoGauge, .static yX9_isNoGauge, .initialized RX9, .methodLink RX9 99 yX9_isOutside, .static yX9_isOutside, .methodLink RX9 212 yX9_lacksGauge, .instanceMethod yX9_lacksGauge, .selects RX9 yX9_lacksGauge yX9_lacksGauge, .code yX9_isNoGauge cX9_isNoGauge 1 (some .boolean), .code yX9_isOutside cX9_isOutside 3 (some .boolean), .code yX9_lacksGauge cX9_lacksGauge 2 (some .boolean), .fieldLink RX9 29 "RiverModel" "isBuilt" "Z"] ++ wsX90)
set_option maxRecDepth 20000 in
theorem gu_X9_chance_X9_isNoGauge_205 : GoodIn uX9_chance (va_wsS RX9 205 yX9_isNoGauge uX9_isNoGauge) := goodIn_r _ [1, 2, 3, 9] (by decide +kernel) (by decide +kernel)
set_option maxRecDepth 20000 in
theorem gu_X9_chance_X9_isOutside_99 : GoodIn uX9_chance (va_wsS RX9 99 yX9_isOutside uX9_isOutside) := goodIn_r _ [4, 5, 3, 10] (by decide +kernel) (by decide +kernel)
set_option maxRecDepth 20000 in
theorem gu_X9_chance_X9_lacksGauge_212 : GoodIn uX9_chance (wsV RX9 212 RX9 yX9_lacksGauge uX9_lacksGauge) := goodIn_r _ [6, 7, 8, 3, 11, 12, 13, 14, 15, 16, 17, 18, 19, 20, 21, 22, 23, 24, 25, 26, 27, 28, 29, 30] (by decide +kernel) (by decide +kernel)
set_option maxHeartbeats 4000000 in
set_option maxRecDepth 100000 in
theorem c_X9_chance (l : Launch) (D : va_G) (t : Nat → Nat) (cI cL cC : ClassId) (a0 : Nat) (a1 : Int32) (a2 : Int32) (a3 : Int64) (k_a0 : t a0 = 1) : tM l yX9_chance uX9_chance 1 22 D (fF cI cL cC 0 0) (fF cI cL cC 0 0) t cI cL cC [.ref a0, .int a1, .int a2, .long a3] wr0 (pI (fun r => (r = (-1) ∧ (a1.toInt < 0 ∨ 3 < a1.toInt ∨ a2.toInt < 1 ∨ 24 < a2.toInt)) ∨ (r = (-2) ∧ 0 ≤ a1.toInt ∧ a1.toInt ≤ 3 ∧ 1 ≤ a2.toInt ∧ a2.toInt ≤ 24))) := by
  refine tM.ofW (cc := cX9_chance) (maxL := 5) (ret := (some .int)) (by decide) rfl (Nat.le_of_ble_eq_true rfl) ?_
  intro p e s m below meth c hx hb hr hml hown hts hlk H locs hG hK hE hS ls hl
  have hl : lv_has ls 5 [(0, .ref a0), (1, .int a1), (2, .int a2), (3, .long a3)] := hl
  skip
  refine lv_iload_n hx hb dX9_chance_0 rfl (lv_at hl 1 rfl) ?_
  refine ty_calli ((W.runS (As := [.int a1]) (rest := []) ⟨hx, hb, hml, hown, hts⟩ (c_isNoGauge l D t cI cL cC 0 0 a1 ) (va_cwS 1 hts gu_X9_chance_X9_isNoGauge_205 rfl rfl rfl (by decide +kernel) ⟨Nat.le_of_ble_eq_true rfl, Nat.le_of_ble_eq_true rfl⟩) (tP_S hG hE) rfl rfl hl.1 rfl (lv_room (Nat.le_of_ble_eq_true rfl)) dX9_chance_1 ⟨Nat.le_of_ble_eq_true rfl, Nat.le_of_ble_eq_true rfl⟩)) hS (fun _ h => h) (fun r_1 H locs hp_2 hG hS o_3 => ?_)
  rcases hp_2 with ⟨rfl, hc_73⟩ | ⟨rfl, hc_74, hc_75⟩
  · skip
    refine lv_if_ne (tgt := 17) hx hb dX9_chance_4 (by decide) (fun _ => ?_) (fun q => absurd q (by decide))
    refine lv_iconst (v := (-1)) hx hb dX9_chance_17 (by decide) ?_
    exact ty_iret hx hb hr hlk hG hS (by first | exact Or.inl ⟨rfl, by omega⟩ | exact Or.inr ⟨rfl, by omega⟩ | exact Or.inr (Or.inl ⟨rfl, by omega⟩) | exact Or.inr (Or.inr ⟨rfl, by omega⟩) | exact ⟨rfl, by omega⟩ | omega | trivial | rfl | (exfalso; omega)) dX9_chance_18
  · skip
    refine lv_if_ne (tgt := 17) hx hb dX9_chance_4 (by decide) (fun q => absurd rfl q) (fun _ => ?_)
    refine lv_iload_n hx hb dX9_chance_7 rfl (lv_at hl 2 rfl) ?_
    refine lv_pc (pc2 := 8) rfl ?_
    refine lv_iconst (v := 1) hx hb dX9_chance_8 (by decide) ?_
    refine lv_bipush (v := 24) hx hb dX9_chance_9 (by decide) ?_
    refine ty_calli ((W.runS (As := [.int a2, .int 1, .int 24]) (rest := []) ⟨hx, hb, hml, hown, hts⟩ (c_isOutside l D t cI cL cC 0 0 a2 1 24 1 24 (by decide) (by decide) ) (va_cwS 3 hts gu_X9_chance_X9_isOutside_99 rfl rfl rfl (by decide +kernel) ⟨Nat.le_of_ble_eq_true rfl, Nat.le_of_ble_eq_true rfl⟩) (tP_S hG hE) rfl rfl hl.1 rfl (lv_room (Nat.le_of_ble_eq_true rfl)) dX9_chance_11 ⟨Nat.le_of_ble_eq_true rfl, Nat.le_of_ble_eq_true rfl⟩)) hS (fun _ h => h) (fun r_4 H locs hp_5 hG hS o_6 => ?_)
    rcases hp_5 with ⟨rfl, hc_76⟩ | ⟨rfl, hc_77, hc_78⟩
    · skip
      refine lv_if_eq (tgt := 19) hx hb dX9_chance_14 (by decide) (fun q => absurd q (by decide)) (fun _ => ?_)
      refine lv_iconst (v := (-1)) hx hb dX9_chance_17 (by decide) ?_
      exact ty_iret hx hb hr hlk hG hS (by first | exact Or.inl ⟨rfl, by omega⟩ | exact Or.inr ⟨rfl, by omega⟩ | exact Or.inr (Or.inl ⟨rfl, by omega⟩) | exact Or.inr (Or.inr ⟨rfl, by omega⟩) | exact ⟨rfl, by omega⟩ | omega | trivial | rfl | (exfalso; omega)) dX9_chance_18
    · skip
      refine lv_if_eq (tgt := 19) hx hb dX9_chance_14 (by decide) (fun _ => ?_) (fun q => absurd (by decide) q)
      refine lv_aload_n hx hb dX9_chance_19 rfl (lv_at hl 0 rfl) ?_
      refine lv_pc (pc2 := 20) rfl ?_
      refine lv_iload_n hx hb dX9_chance_20 rfl (lv_at hl 1 rfl) ?_
      obtain ⟨r_7, r_9, r_11, r_13, r_15, r_17, r_19, r_21, r_23, r_25, r_27, r_29, r_31, r_33, r_35, at_37, h_8, h_10, h_12, h_14, h_16, h_18, h_20, h_22, h_24, h_26, h_28, h_30, h_32, h_34, h_36⟩ := fF_o1 hG k_a0
      refine ty_calli ((W.runV (As := [.int a1]) (rest := []) ⟨hx, hb, hml, hown, hts⟩ (c_X9_lacksGauge l D t cI cL cC a0 a1 k_a0) (cwV 1 hts gu_X9_chance_X9_lacksGauge_212 rfl rfl rfl (by decide +kernel) ⟨Nat.le_of_ble_eq_true rfl, Nat.le_of_ble_eq_true rfl⟩) (tP_V hG hE at_37 rfl) rfl rfl hl.1 rfl (lv_room (Nat.le_of_ble_eq_true rfl)) dX9_chance_21 ⟨Nat.le_of_ble_eq_true rfl, Nat.le_of_ble_eq_true rfl⟩)) hS (fun _ h => h) (fun r_38 H locs hp_39 hG hS o_40 => ?_)
      have at_37 := va_at.keptC at_37 o_40 k_a0 rfl
      rcases hp_39 with rfl
      refine lv_if_ne (tgt := 35) hx hb dX9_chance_24 (by decide) (fun _ => ?_) (fun q => absurd q (by decide))
      refine lv_bipush (v := (-2)) hx hb dX9_chance_35 (by decide) ?_
      refine lv_goto (tgt := 47) hx hb dX9_chance_37 (by decide) ?_
      exact ty_iret hx hb hr hlk hG hS (by first | exact Or.inl ⟨rfl, by omega⟩ | exact Or.inr ⟨rfl, by omega⟩ | exact Or.inr (Or.inl ⟨rfl, by omega⟩) | exact Or.inr (Or.inr ⟨rfl, by omega⟩) | exact ⟨rfl, by omega⟩ | omega | trivial | rfl | (exfalso; omega)) dX9_chance_47

def uX9_warn : List Cond := .code yX9_warn cX9_warn 8 (some .int) :: ([.methodLink RX9 205 yX9_isNoGauge, .static yX9_isNoGauge, .initialized RX9, .methodLink RX9 99 yX9_isOutside, .static yX9_isOutside, .methodLink RX9 212 yX9_lacksGauge, .instanceMethod yX9_lacksGauge, .selects RX9 yX9_lacksGauge yX9_lacksGauge, .code yX9_isNoGauge cX9_isNoGauge 1 (some .boolean), .code yX9_isOutside cX9_isOutside 3 (some .boolean), .code yX9_lacksGauge cX9_lacksGauge 2 (some .boolean), .fieldLink RX9 29 "RiverModel" "isBuilt" "Z"] ++ wsX90)
set_option maxRecDepth 20000 in
theorem gu_X9_warn_X9_isNoGauge_205 : GoodIn uX9_warn (va_wsS RX9 205 yX9_isNoGauge uX9_isNoGauge) := goodIn_r _ [1, 2, 3, 9] (by decide +kernel) (by decide +kernel)
set_option maxRecDepth 20000 in
theorem gu_X9_warn_X9_isOutside_99 : GoodIn uX9_warn (va_wsS RX9 99 yX9_isOutside uX9_isOutside) := goodIn_r _ [4, 5, 3, 10] (by decide +kernel) (by decide +kernel)
set_option maxRecDepth 20000 in
theorem gu_X9_warn_X9_lacksGauge_212 : GoodIn uX9_warn (wsV RX9 212 RX9 yX9_lacksGauge uX9_lacksGauge) := goodIn_r _ [6, 7, 8, 3, 11, 12, 13, 14, 15, 16, 17, 18, 19, 20, 21, 22, 23, 24, 25, 26, 27, 28, 29, 30] (by decide +kernel) (by decide +kernel)
set_option maxHeartbeats 4000000 in
set_option maxRecDepth 100000 in
theorem c_X9_warn (l : Launch) (D : va_G) (t : Nat → Nat) (cI cL cC : ClassId) (a0 : Nat) (a1 : Int32) (a2 : Int32) (a3 : Int64) (a4 : Int32) (k_a0 : t a0 = 1) : tM l yX9_warn uX9_warn 1 22 D (fF cI cL cC 0 0) (fF cI cL cC 0 0) t cI cL cC [.ref a0, .int a1, .int a2, .long a3, .int a4] wr0 (pI (fun r => (r = (-1) ∧ (a1.toInt < 0 ∨ 3 < a1.toInt ∨ a2.toInt < 1 ∨ 24 < a2.toInt ∨ a4.toInt < 0 ∨ 100 < a4.toInt)) ∨ (r = (-2) ∧ 0 ≤ a1.toInt ∧ a1.toInt ≤ 3 ∧ 1 ≤ a2.toInt ∧ a2.toInt ≤ 24 ∧ 0 ≤ a4.toInt ∧ a4.toInt ≤ 100))) := by
  refine tM.ofW (cc := cX9_warn) (maxL := 8) (ret := (some .int)) (by decide) rfl (Nat.le_of_ble_eq_true rfl) ?_
  intro p e s m below meth c hx hb hr hml hown hts hlk H locs hG hK hE hS ls hl
  have hl : lv_has ls 8 [(0, .ref a0), (1, .int a1), (2, .int a2), (3, .long a3), (5, .int a4)] := hl
  skip
  refine lv_iload_n hx hb dX9_warn_0 rfl (lv_at hl 1 rfl) ?_
  refine ty_calli ((W.runS (As := [.int a1]) (rest := []) ⟨hx, hb, hml, hown, hts⟩ (c_isNoGauge l D t cI cL cC 0 0 a1 ) (va_cwS 1 hts gu_X9_warn_X9_isNoGauge_205 rfl rfl rfl (by decide +kernel) ⟨Nat.le_of_ble_eq_true rfl, Nat.le_of_ble_eq_true rfl⟩) (tP_S hG hE) rfl rfl hl.1 rfl (lv_room (Nat.le_of_ble_eq_true rfl)) dX9_warn_1 ⟨Nat.le_of_ble_eq_true rfl, Nat.le_of_ble_eq_true rfl⟩)) hS (fun _ h => h) (fun r_1 H locs hp_2 hG hS o_3 => ?_)
  rcases hp_2 with ⟨rfl, hc_79⟩ | ⟨rfl, hc_80, hc_81⟩
  · skip
    refine lv_if_ne (tgt := 28) hx hb dX9_warn_4 (by decide) (fun _ => ?_) (fun q => absurd q (by decide))
    refine lv_iconst (v := (-1)) hx hb dX9_warn_28 (by decide) ?_
    exact ty_iret hx hb hr hlk hG hS (by first | exact Or.inl ⟨rfl, by omega⟩ | exact Or.inr ⟨rfl, by omega⟩ | exact Or.inr (Or.inl ⟨rfl, by omega⟩) | exact Or.inr (Or.inr ⟨rfl, by omega⟩) | exact ⟨rfl, by omega⟩ | omega | trivial | rfl | (exfalso; omega)) dX9_warn_29
  · skip
    refine lv_if_ne (tgt := 28) hx hb dX9_warn_4 (by decide) (fun q => absurd rfl q) (fun _ => ?_)
    refine lv_iload_n hx hb dX9_warn_7 rfl (lv_at hl 2 rfl) ?_
    refine lv_pc (pc2 := 8) rfl ?_
    refine lv_iconst (v := 1) hx hb dX9_warn_8 (by decide) ?_
    refine lv_bipush (v := 24) hx hb dX9_warn_9 (by decide) ?_
    refine ty_calli ((W.runS (As := [.int a2, .int 1, .int 24]) (rest := []) ⟨hx, hb, hml, hown, hts⟩ (c_isOutside l D t cI cL cC 0 0 a2 1 24 1 24 (by decide) (by decide) ) (va_cwS 3 hts gu_X9_warn_X9_isOutside_99 rfl rfl rfl (by decide +kernel) ⟨Nat.le_of_ble_eq_true rfl, Nat.le_of_ble_eq_true rfl⟩) (tP_S hG hE) rfl rfl hl.1 rfl (lv_room (Nat.le_of_ble_eq_true rfl)) dX9_warn_11 ⟨Nat.le_of_ble_eq_true rfl, Nat.le_of_ble_eq_true rfl⟩)) hS (fun _ h => h) (fun r_4 H locs hp_5 hG hS o_6 => ?_)
    rcases hp_5 with ⟨rfl, hc_82⟩ | ⟨rfl, hc_83, hc_84⟩
    · skip
      refine lv_if_ne (tgt := 28) hx hb dX9_warn_14 (by decide) (fun _ => ?_) (fun q => absurd q (by decide))
      refine lv_iconst (v := (-1)) hx hb dX9_warn_28 (by decide) ?_
      exact ty_iret hx hb hr hlk hG hS (by first | exact Or.inl ⟨rfl, by omega⟩ | exact Or.inr ⟨rfl, by omega⟩ | exact Or.inr (Or.inl ⟨rfl, by omega⟩) | exact Or.inr (Or.inr ⟨rfl, by omega⟩) | exact ⟨rfl, by omega⟩ | omega | trivial | rfl | (exfalso; omega)) dX9_warn_29
    · skip
      refine lv_if_ne (tgt := 28) hx hb dX9_warn_14 (by decide) (fun q => absurd rfl q) (fun _ => ?_)
      refine lv_iload hx hb dX9_warn_17 (lv_at hl 4 rfl) ?_
      refine lv_pc (pc2 := 19) rfl ?_
      refine lv_iconst (v := 0) hx hb dX9_warn_19 (by decide) ?_
      refine lv_bipush (v := 100) hx hb dX9_warn_20 (by decide) ?_
      refine ty_calli ((W.runS (As := [.int a4, .int 0, .int 100]) (rest := []) ⟨hx, hb, hml, hown, hts⟩ (c_isOutside l D t cI cL cC 0 0 a4 0 100 0 100 (by decide) (by decide) ) (va_cwS 3 hts gu_X9_warn_X9_isOutside_99 rfl rfl rfl (by decide +kernel) ⟨Nat.le_of_ble_eq_true rfl, Nat.le_of_ble_eq_true rfl⟩) (tP_S hG hE) rfl rfl hl.1 rfl (lv_room (Nat.le_of_ble_eq_true rfl)) dX9_warn_22 ⟨Nat.le_of_ble_eq_true rfl, Nat.le_of_ble_eq_true rfl⟩)) hS (fun _ h => h) (fun r_7 H locs hp_8 hG hS o_9 => ?_)
      rcases hp_8 with ⟨rfl, hc_85⟩ | ⟨rfl, hc_86, hc_87⟩
      · skip
        refine lv_if_eq (tgt := 30) hx hb dX9_warn_25 (by decide) (fun q => absurd q (by decide)) (fun _ => ?_)
        refine lv_iconst (v := (-1)) hx hb dX9_warn_28 (by decide) ?_
        exact ty_iret hx hb hr hlk hG hS (by first | exact Or.inl ⟨rfl, by omega⟩ | exact Or.inr ⟨rfl, by omega⟩ | exact Or.inr (Or.inl ⟨rfl, by omega⟩) | exact Or.inr (Or.inr ⟨rfl, by omega⟩) | exact ⟨rfl, by omega⟩ | omega | trivial | rfl | (exfalso; omega)) dX9_warn_29
      · skip
        refine lv_if_eq (tgt := 30) hx hb dX9_warn_25 (by decide) (fun _ => ?_) (fun q => absurd (by decide) q)
        refine lv_aload_n hx hb dX9_warn_30 rfl (lv_at hl 0 rfl) ?_
        refine lv_pc (pc2 := 31) rfl ?_
        refine lv_iload_n hx hb dX9_warn_31 rfl (lv_at hl 1 rfl) ?_
        obtain ⟨r_10, r_12, r_14, r_16, r_18, r_20, r_22, r_24, r_26, r_28, r_30, r_32, r_34, r_36, r_38, at_40, h_11, h_13, h_15, h_17, h_19, h_21, h_23, h_25, h_27, h_29, h_31, h_33, h_35, h_37, h_39⟩ := fF_o1 hG k_a0
        refine ty_calli ((W.runV (As := [.int a1]) (rest := []) ⟨hx, hb, hml, hown, hts⟩ (c_X9_lacksGauge l D t cI cL cC a0 a1 k_a0) (cwV 1 hts gu_X9_warn_X9_lacksGauge_212 rfl rfl rfl (by decide +kernel) ⟨Nat.le_of_ble_eq_true rfl, Nat.le_of_ble_eq_true rfl⟩) (tP_V hG hE at_40 rfl) rfl rfl hl.1 rfl (lv_room (Nat.le_of_ble_eq_true rfl)) dX9_warn_32 ⟨Nat.le_of_ble_eq_true rfl, Nat.le_of_ble_eq_true rfl⟩)) hS (fun _ h => h) (fun r_41 H locs hp_42 hG hS o_43 => ?_)
        have at_40 := va_at.keptC at_40 o_43 k_a0 rfl
        rcases hp_42 with rfl
        refine lv_if_ne (tgt := 46) hx hb dX9_warn_35 (by decide) (fun _ => ?_) (fun q => absurd q (by decide))
        refine lv_bipush (v := (-2)) hx hb dX9_warn_46 (by decide) ?_
        exact ty_iret hx hb hr hlk hG hS (by first | exact Or.inl ⟨rfl, by omega⟩ | exact Or.inr ⟨rfl, by omega⟩ | exact Or.inr (Or.inl ⟨rfl, by omega⟩) | exact Or.inr (Or.inr ⟨rfl, by omega⟩) | exact ⟨rfl, by omega⟩ | omega | trivial | rfl | (exfalso; omega)) dX9_warn_48

def uX9_booked : List Cond := .code yX9_booked cX9_booked 2 (some .int) :: ([.methodLink RX9 99 yX9_isOutside, .static yX9_isOutside, .initialized RX9, .fieldLink RX9 88 "RiverModel" "worlds" "LRiverModel$Worlds;", .fieldLink RX9 283 "RiverModel$Worlds" "warnings" "[I", .code yX9_isOutside cX9_isOutside 3 (some .boolean)] ++ wsX90 ++ wsX80)
set_option maxRecDepth 20000 in
theorem gu_X9_booked_X9_isOutside_99 : GoodIn uX9_booked (va_wsS RX9 99 yX9_isOutside uX9_isOutside) := goodIn_r _ [1, 2, 3, 6] (by decide +kernel) (by decide +kernel)
set_option maxHeartbeats 4000000 in
set_option maxRecDepth 100000 in
theorem c_X9_booked (l : Launch) (D : va_G) (t : Nat → Nat) (cI cL cC : ClassId) (a0 : Nat) (a1 : Int32) (k_a0 : t a0 = 1) : tM l yX9_booked uX9_booked 1 22 D (fF cI cL cC 0 0) (fF cI cL cC 0 0) t cI cL cC [.ref a0, .int a1] wr0 (pI (fun r => (r = (-1) ∧ (a1.toInt < 0 ∨ 3 < a1.toInt)) ∨ (r = 0 ∧ 0 ≤ a1.toInt ∧ a1.toInt ≤ 3))) := by
  refine tM.ofW (cc := cX9_booked) (maxL := 2) (ret := (some .int)) (by decide) rfl (Nat.le_of_ble_eq_true rfl) ?_
  intro p e s m below meth c hx hb hr hml hown hts hlk H locs hG hK hE hS ls hl
  have hl : lv_has ls 2 [(0, .ref a0), (1, .int a1)] := hl
  have in9 : ∀ w ∈ wsX90, w ∈ uX9_booked := fun w h => List.mem_cons_of_mem _ (List.mem_append_left _ (List.mem_append_right _ h))
  have in8 : ∀ w ∈ wsX80, w ∈ uX9_booked := fun w h => List.mem_cons_of_mem _ (List.mem_append_right _ h)
  refine lv_iload_n hx hb dX9_booked_0 rfl (lv_at hl 1 rfl) ?_
  refine lv_iconst (v := 0) hx hb dX9_booked_1 (by decide) ?_
  refine lv_iconst (v := 3) hx hb dX9_booked_2 (by decide) ?_
  refine ty_calli ((W.runS (As := [.int a1, .int 0, .int 3]) (rest := []) ⟨hx, hb, hml, hown, hts⟩ (c_isOutside l D t cI cL cC 0 0 a1 0 3 0 3 (by decide) (by decide) ) (va_cwS 3 hts gu_X9_booked_X9_isOutside_99 rfl rfl rfl (by decide +kernel) ⟨Nat.le_of_ble_eq_true rfl, Nat.le_of_ble_eq_true rfl⟩) (tP_S hG hE) rfl rfl hl.1 rfl (lv_room (Nat.le_of_ble_eq_true rfl)) dX9_booked_3 ⟨Nat.le_of_ble_eq_true rfl, Nat.le_of_ble_eq_true rfl⟩)) hS (fun _ h => h) (fun r_1 H locs hp_2 hG hS o_3 => ?_)
  rcases hp_2 with ⟨rfl, hc_88⟩ | ⟨rfl, hc_89, hc_90⟩
  · skip
    refine lv_if_eq (tgt := 13) hx hb dX9_booked_6 (by decide) (fun q => absurd q (by decide)) (fun _ => ?_)
    refine lv_iconst (v := (-1)) hx hb dX9_booked_9 (by decide) ?_
    refine lv_goto (tgt := 22) hx hb dX9_booked_10 (by decide) ?_
    refine lv_pc (pc2 := 22) rfl ?_
    exact ty_iret hx hb hr hlk hG hS (by first | exact Or.inl ⟨rfl, by omega⟩ | exact Or.inr ⟨rfl, by omega⟩ | exact Or.inr (Or.inl ⟨rfl, by omega⟩) | exact Or.inr (Or.inr ⟨rfl, by omega⟩) | exact ⟨rfl, by omega⟩ | omega | trivial | rfl | (exfalso; omega)) dX9_booked_22
  · skip
    refine lv_if_eq (tgt := 13) hx hb dX9_booked_6 (by decide) (fun _ => ?_) (fun q => absurd (by decide) q)
    refine lv_aload_n hx hb dX9_booked_13 rfl (lv_at hl 0 rfl) ?_
    obtain ⟨r_4, r_6, r_8, r_10, r_12, r_14, r_16, r_18, r_20, r_22, r_24, r_26, r_28, r_30, r_32, at_34, h_5, h_7, h_9, h_11, h_13, h_15, h_17, h_19, h_21, h_23, h_25, h_27, h_29, h_31, h_33⟩ := fF_o1 hG k_a0
    refine va_get (D := D) (ci := 8) (v := .ref r_30) (C := RX9) (T := TX9) (N := 18) hx hb hts in9 hown hK (va_one at_34) 0 rfl rfl 16 (by decide) (hts (.fieldLink RX9 88 "RiverModel" "worlds" "LRiverModel$Worlds;") (List.mem_of_getElem? (i := 4) rfl)) (fun _ h9 => h9) rfl dX9_booked_14 ?_
    obtain ⟨r_35, r_37, r_39, at_41, h_36, h_38, h_40⟩ := fF_o8 hG h_31
    refine va_get (D := D) (ci := 7) (v := .ref r_37) (C := RX8) (T := TX8) (N := 3) hx hb hts in8 hown hK (va_one at_41) 0 rfl rfl 1 (by decide) (hts (.fieldLink RX9 283 "RiverModel$Worlds" "warnings" "[I") (List.mem_of_getElem? (i := 5) rfl)) (fun _ h9 => h9) rfl dX9_booked_17 ?_
    refine lv_iload_n hx hb dX9_booked_20 rfl (lv_at hl 1 rfl) ?_
    obtain ⟨f_42, at_43, h_44⟩ := fF_o30 hG h_38
    have b_45 : vp_in a1 4 := (q_in (by omega) (by omega))
    refine va_iald hx hb hK (va_one at_43) 0 0 rfl rfl b_45 dX9_booked_21 ?_
    refine lv_seti (y := 0) (h_44 _ (q_inlt b_45)) ?_
    exact ty_iret hx hb hr hlk hG hS (by first | exact Or.inl ⟨rfl, by omega⟩ | exact Or.inr ⟨rfl, by omega⟩ | exact Or.inr (Or.inl ⟨rfl, by omega⟩) | exact Or.inr (Or.inr ⟨rfl, by omega⟩) | exact ⟨rfl, by omega⟩ | omega | trivial | rfl | (exfalso; omega)) dX9_booked_22

def uX9_peak : List Cond := .code yX9_peak cX9_peak 4 (some .long) :: ([.methodLink RX9 205 yX9_isNoGauge, .static yX9_isNoGauge, .initialized RX9, .constantLong RX9 158 (-1), .methodLink RX9 99 yX9_isOutside, .static yX9_isOutside, .methodLink RX9 212 yX9_lacksGauge, .instanceMethod yX9_lacksGauge, .selects RX9 yX9_lacksGauge yX9_lacksGauge, .constantLong RX9 163 (-2), .code yX9_isNoGauge cX9_isNoGauge 1 (some .boolean), .code yX9_isOutside cX9_isOutside 3 (some .boolean), .code yX9_lacksGauge cX9_lacksGauge 2 (some .boolean), .fieldLink RX9 29 "RiverModel" "isBuilt" "Z"] ++ wsX90)
set_option maxRecDepth 20000 in
theorem gu_X9_peak_X9_isNoGauge_205 : GoodIn uX9_peak (va_wsS RX9 205 yX9_isNoGauge uX9_isNoGauge) := goodIn_r _ [1, 2, 3, 11] (by decide +kernel) (by decide +kernel)
set_option maxRecDepth 20000 in
theorem gu_X9_peak_X9_isOutside_99 : GoodIn uX9_peak (va_wsS RX9 99 yX9_isOutside uX9_isOutside) := goodIn_r _ [5, 6, 3, 12] (by decide +kernel) (by decide +kernel)
set_option maxRecDepth 20000 in
theorem gu_X9_peak_X9_lacksGauge_212 : GoodIn uX9_peak (wsV RX9 212 RX9 yX9_lacksGauge uX9_lacksGauge) := goodIn_r _ [7, 8, 9, 3, 13, 14, 15, 16, 17, 18, 19, 20, 21, 22, 23, 24, 25, 26, 27, 28, 29, 30, 31, 32] (by decide +kernel) (by decide +kernel)
set_option maxHeartbeats 4000000 in
set_option maxRecDepth 100000 in
theorem c_X9_peak (l : Launch) (D : va_G) (t : Nat → Nat) (cI cL cC : ClassId) (a0 : Nat) (a1 : Int32) (a2 : Int32) (a3 : Int32) (k_a0 : t a0 = 1) : tM l yX9_peak uX9_peak 1 22 D (fF cI cL cC 0 0) (fF cI cL cC 0 0) t cI cL cC [.ref a0, .int a1, .int a2, .int a3] wr0 (pL (fun r => (r = (-1) ∧ (a1.toInt < 0 ∨ 3 < a1.toInt ∨ a2.toInt < 1 ∨ 24 < a2.toInt ∨ a3.toInt < (-1) ∨ 3 < a3.toInt)) ∨ (r = (-2) ∧ 0 ≤ a1.toInt ∧ a1.toInt ≤ 3 ∧ 1 ≤ a2.toInt ∧ a2.toInt ≤ 24 ∧ (-1) ≤ a3.toInt ∧ a3.toInt ≤ 3))) := by
  refine tM.ofW (cc := cX9_peak) (maxL := 4) (ret := (some .long)) (by decide) rfl (Nat.le_of_ble_eq_true rfl) ?_
  intro p e s m below meth c hx hb hr hml hown hts hlk H locs hG hK hE hS ls hl
  have hl : lv_has ls 4 [(0, .ref a0), (1, .int a1), (2, .int a2), (3, .int a3)] := hl
  skip
  refine lv_iload_n hx hb dX9_peak_0 rfl (lv_at hl 1 rfl) ?_
  refine ty_calli ((W.runS (As := [.int a1]) (rest := []) ⟨hx, hb, hml, hown, hts⟩ (c_isNoGauge l D t cI cL cC 0 0 a1 ) (va_cwS 1 hts gu_X9_peak_X9_isNoGauge_205 rfl rfl rfl (by decide +kernel) ⟨Nat.le_of_ble_eq_true rfl, Nat.le_of_ble_eq_true rfl⟩) (tP_S hG hE) rfl rfl hl.1 rfl (lv_room (Nat.le_of_ble_eq_true rfl)) dX9_peak_1 ⟨Nat.le_of_ble_eq_true rfl, Nat.le_of_ble_eq_true rfl⟩)) hS (fun _ h => h) (fun r_1 H locs hp_2 hG hS o_3 => ?_)
  rcases hp_2 with ⟨rfl, hc_91⟩ | ⟨rfl, hc_92, hc_93⟩
  · skip
    refine lv_if_ne (tgt := 26) hx hb dX9_peak_4 (by decide) (fun _ => ?_) (fun q => absurd q (by decide))
    refine lv_ldc2 hx hb hown (hts (.constantLong RX9 158 (-1)) (List.mem_of_getElem? (i := 4) rfl)) dX9_peak_26 ?_
    exact ty_lret hx hb hr hlk hG hS (by first | exact Or.inl ⟨rfl, by omega⟩ | exact Or.inr ⟨rfl, by omega⟩ | exact Or.inr (Or.inl ⟨rfl, by omega⟩) | exact Or.inr (Or.inr ⟨rfl, by omega⟩) | exact ⟨rfl, by omega⟩ | omega | trivial | rfl | (exfalso; omega)) dX9_peak_29
  · skip
    refine lv_if_ne (tgt := 26) hx hb dX9_peak_4 (by decide) (fun q => absurd rfl q) (fun _ => ?_)
    refine lv_iload_n hx hb dX9_peak_7 rfl (lv_at hl 2 rfl) ?_
    refine lv_pc (pc2 := 8) rfl ?_
    refine lv_iconst (v := 1) hx hb dX9_peak_8 (by decide) ?_
    refine lv_bipush (v := 24) hx hb dX9_peak_9 (by decide) ?_
    refine ty_calli ((W.runS (As := [.int a2, .int 1, .int 24]) (rest := []) ⟨hx, hb, hml, hown, hts⟩ (c_isOutside l D t cI cL cC 0 0 a2 1 24 1 24 (by decide) (by decide) ) (va_cwS 3 hts gu_X9_peak_X9_isOutside_99 rfl rfl rfl (by decide +kernel) ⟨Nat.le_of_ble_eq_true rfl, Nat.le_of_ble_eq_true rfl⟩) (tP_S hG hE) rfl rfl hl.1 rfl (lv_room (Nat.le_of_ble_eq_true rfl)) dX9_peak_11 ⟨Nat.le_of_ble_eq_true rfl, Nat.le_of_ble_eq_true rfl⟩)) hS (fun _ h => h) (fun r_4 H locs hp_5 hG hS o_6 => ?_)
    rcases hp_5 with ⟨rfl, hc_94⟩ | ⟨rfl, hc_95, hc_96⟩
    · skip
      refine lv_if_ne (tgt := 26) hx hb dX9_peak_14 (by decide) (fun _ => ?_) (fun q => absurd q (by decide))
      refine lv_ldc2 hx hb hown (hts (.constantLong RX9 158 (-1)) (List.mem_of_getElem? (i := 4) rfl)) dX9_peak_26 ?_
      exact ty_lret hx hb hr hlk hG hS (by first | exact Or.inl ⟨rfl, by omega⟩ | exact Or.inr ⟨rfl, by omega⟩ | exact Or.inr (Or.inl ⟨rfl, by omega⟩) | exact Or.inr (Or.inr ⟨rfl, by omega⟩) | exact ⟨rfl, by omega⟩ | omega | trivial | rfl | (exfalso; omega)) dX9_peak_29
    · skip
      refine lv_if_ne (tgt := 26) hx hb dX9_peak_14 (by decide) (fun q => absurd rfl q) (fun _ => ?_)
      refine lv_iload_n hx hb dX9_peak_17 rfl (lv_at hl 3 rfl) ?_
      refine lv_pc (pc2 := 18) rfl ?_
      refine lv_iconst (v := (-1)) hx hb dX9_peak_18 (by decide) ?_
      refine lv_iconst (v := 3) hx hb dX9_peak_19 (by decide) ?_
      refine ty_calli ((W.runS (As := [.int a3, .int (-1), .int 3]) (rest := []) ⟨hx, hb, hml, hown, hts⟩ (c_isOutside l D t cI cL cC 0 0 a3 (-1) 3 (-1) 3 (by decide) (by decide) ) (va_cwS 3 hts gu_X9_peak_X9_isOutside_99 rfl rfl rfl (by decide +kernel) ⟨Nat.le_of_ble_eq_true rfl, Nat.le_of_ble_eq_true rfl⟩) (tP_S hG hE) rfl rfl hl.1 rfl (lv_room (Nat.le_of_ble_eq_true rfl)) dX9_peak_20 ⟨Nat.le_of_ble_eq_true rfl, Nat.le_of_ble_eq_true rfl⟩)) hS (fun _ h => h) (fun r_7 H locs hp_8 hG hS o_9 => ?_)
      rcases hp_8 with ⟨rfl, hc_97⟩ | ⟨rfl, hc_98, hc_99⟩
      · skip
        refine lv_if_eq (tgt := 30) hx hb dX9_peak_23 (by decide) (fun q => absurd q (by decide)) (fun _ => ?_)
        refine lv_ldc2 hx hb hown (hts (.constantLong RX9 158 (-1)) (List.mem_of_getElem? (i := 4) rfl)) dX9_peak_26 ?_
        exact ty_lret hx hb hr hlk hG hS (by first | exact Or.inl ⟨rfl, by omega⟩ | exact Or.inr ⟨rfl, by omega⟩ | exact Or.inr (Or.inl ⟨rfl, by omega⟩) | exact Or.inr (Or.inr ⟨rfl, by omega⟩) | exact ⟨rfl, by omega⟩ | omega | trivial | rfl | (exfalso; omega)) dX9_peak_29
      · skip
        refine lv_if_eq (tgt := 30) hx hb dX9_peak_23 (by decide) (fun _ => ?_) (fun q => absurd (by decide) q)
        refine lv_aload_n hx hb dX9_peak_30 rfl (lv_at hl 0 rfl) ?_
        refine lv_pc (pc2 := 31) rfl ?_
        refine lv_iload_n hx hb dX9_peak_31 rfl (lv_at hl 1 rfl) ?_
        obtain ⟨r_10, r_12, r_14, r_16, r_18, r_20, r_22, r_24, r_26, r_28, r_30, r_32, r_34, r_36, r_38, at_40, h_11, h_13, h_15, h_17, h_19, h_21, h_23, h_25, h_27, h_29, h_31, h_33, h_35, h_37, h_39⟩ := fF_o1 hG k_a0
        refine ty_calli ((W.runV (As := [.int a1]) (rest := []) ⟨hx, hb, hml, hown, hts⟩ (c_X9_lacksGauge l D t cI cL cC a0 a1 k_a0) (cwV 1 hts gu_X9_peak_X9_lacksGauge_212 rfl rfl rfl (by decide +kernel) ⟨Nat.le_of_ble_eq_true rfl, Nat.le_of_ble_eq_true rfl⟩) (tP_V hG hE at_40 rfl) rfl rfl hl.1 rfl (lv_room (Nat.le_of_ble_eq_true rfl)) dX9_peak_32 ⟨Nat.le_of_ble_eq_true rfl, Nat.le_of_ble_eq_true rfl⟩)) hS (fun _ h => h) (fun r_41 H locs hp_42 hG hS o_43 => ?_)
        have at_40 := va_at.keptC at_40 o_43 k_a0 rfl
        rcases hp_42 with rfl
        refine lv_if_ne (tgt := 46) hx hb dX9_peak_35 (by decide) (fun _ => ?_) (fun q => absurd q (by decide))
        refine lv_ldc2 hx hb hown (hts (.constantLong RX9 163 (-2)) (List.mem_of_getElem? (i := 10) rfl)) dX9_peak_46 ?_
        refine lv_goto (tgt := 59) hx hb dX9_peak_49 (by decide) ?_
        exact ty_lret hx hb hr hlk hG hS (by first | exact Or.inl ⟨rfl, by omega⟩ | exact Or.inr ⟨rfl, by omega⟩ | exact Or.inr (Or.inl ⟨rfl, by omega⟩) | exact Or.inr (Or.inr ⟨rfl, by omega⟩) | exact ⟨rfl, by omega⟩ | omega | trivial | rfl | (exfalso; omega)) dX9_peak_59

def uX9_best : List Cond := .code yX9_best cX9_best 8 (some .long) :: ([.methodLink RX9 176 yX9_isNoGate, .static yX9_isNoGate, .initialized RX9, .constantLong RX9 158 (-1), .methodLink RX9 99 yX9_isOutside, .static yX9_isOutside, .methodLink RX9 205 yX9_isNoGauge, .static yX9_isNoGauge, .methodLink RX9 155 yX9_isNoStore, .static yX9_isNoStore, .methodLink RX9 179 yX9_lacksGate, .instanceMethod yX9_lacksGate, .selects RX9 yX9_lacksGate yX9_lacksGate, .constantLong RX9 163 (-2), .code yX9_isNoGate cX9_isNoGate 1 (some .boolean), .code yX9_isOutside cX9_isOutside 3 (some .boolean), .code yX9_isNoGauge cX9_isNoGauge 1 (some .boolean), .code yX9_isNoStore cX9_isNoStore 1 (some .boolean), .code yX9_lacksGate cX9_lacksGate 2 (some .boolean), .fieldLink RX9 29 "RiverModel" "isBuilt" "Z"] ++ wsX90)
set_option maxRecDepth 20000 in
theorem gu_X9_best_X9_isNoGate_176 : GoodIn uX9_best (va_wsS RX9 176 yX9_isNoGate uX9_isNoGate) := goodIn_r _ [1, 2, 3, 15] (by decide +kernel) (by decide +kernel)
set_option maxRecDepth 20000 in
theorem gu_X9_best_X9_isOutside_99 : GoodIn uX9_best (va_wsS RX9 99 yX9_isOutside uX9_isOutside) := goodIn_r _ [5, 6, 3, 16] (by decide +kernel) (by decide +kernel)
set_option maxRecDepth 20000 in
theorem gu_X9_best_X9_isNoGauge_205 : GoodIn uX9_best (va_wsS RX9 205 yX9_isNoGauge uX9_isNoGauge) := goodIn_r _ [7, 8, 3, 17] (by decide +kernel) (by decide +kernel)
set_option maxRecDepth 20000 in
theorem gu_X9_best_X9_isNoStore_155 : GoodIn uX9_best (va_wsS RX9 155 yX9_isNoStore uX9_isNoStore) := goodIn_r _ [9, 10, 3, 18] (by decide +kernel) (by decide +kernel)
set_option maxRecDepth 20000 in
theorem gu_X9_best_X9_lacksGate_179 : GoodIn uX9_best (wsV RX9 179 RX9 yX9_lacksGate uX9_lacksGate) := goodIn_r _ [11, 12, 13, 3, 19, 20, 21, 22, 23, 24, 25, 26, 27, 28, 29, 30, 31, 32, 33, 34, 35, 36, 37, 38] (by decide +kernel) (by decide +kernel)
set_option maxHeartbeats 4000000 in
set_option maxRecDepth 100000 in
theorem c_X9_best (l : Launch) (D : va_G) (t : Nat → Nat) (cI cL cC : ClassId) (a0 : Nat) (a1 : Int32) (a2 : Int32) (a3 : Int32) (a4 : Int32) (a5 : Int64) (a6 : Int32) (k_a0 : t a0 = 1) : tM l yX9_best uX9_best 1 22 D (fF cI cL cC 0 0) (fF cI cL cC 0 0) t cI cL cC [.ref a0, .int a1, .int a2, .int a3, .int a4, .long a5, .int a6] wr0 (pL (fun r => (r = (-1) ∧ (a1.toInt < 0 ∨ 3 < a1.toInt ∨ a2.toInt < 1 ∨ 6 < a2.toInt ∨ a3.toInt < 0 ∨ 3 < a3.toInt ∨ a4.toInt < 0 ∨ 15 < a4.toInt ∨ a6.toInt < (-1) ∨ 3 < a6.toInt)) ∨ (r = (-2) ∧ 0 ≤ a1.toInt ∧ a1.toInt ≤ 3 ∧ 1 ≤ a2.toInt ∧ a2.toInt ≤ 6 ∧ 0 ≤ a3.toInt ∧ a3.toInt ≤ 3 ∧ 0 ≤ a4.toInt ∧ a4.toInt ≤ 15 ∧ (-1) ≤ a6.toInt ∧ a6.toInt ≤ 3))) := by
  refine tM.ofW (cc := cX9_best) (maxL := 8) (ret := (some .long)) (by decide) rfl (Nat.le_of_ble_eq_true rfl) ?_
  intro p e s m below meth c hx hb hr hml hown hts hlk H locs hG hK hE hS ls hl
  have hl : lv_has ls 8 [(0, .ref a0), (1, .int a1), (2, .int a2), (3, .int a3), (4, .int a4), (5, .long a5), (7, .int a6)] := hl
  skip
  refine lv_iload_n hx hb dX9_best_0 rfl (lv_at hl 1 rfl) ?_
  refine ty_calli ((W.runS (As := [.int a1]) (rest := []) ⟨hx, hb, hml, hown, hts⟩ (c_isNoGate l D t cI cL cC 0 0 a1 ) (va_cwS 1 hts gu_X9_best_X9_isNoGate_176 rfl rfl rfl (by decide +kernel) ⟨Nat.le_of_ble_eq_true rfl, Nat.le_of_ble_eq_true rfl⟩) (tP_S hG hE) rfl rfl hl.1 rfl (lv_room (Nat.le_of_ble_eq_true rfl)) dX9_best_1 ⟨Nat.le_of_ble_eq_true rfl, Nat.le_of_ble_eq_true rfl⟩)) hS (fun _ h => h) (fun r_1 H locs hp_2 hG hS o_3 => ?_)
  rcases hp_2 with ⟨rfl, hc_100⟩ | ⟨rfl, hc_101, hc_102⟩
  · skip
    refine lv_if_ne (tgt := 24) hx hb dX9_best_4 (by decide) (fun _ => ?_) (fun q => absurd q (by decide))
    refine lv_ldc2 hx hb hown (hts (.constantLong RX9 158 (-1)) (List.mem_of_getElem? (i := 4) rfl)) dX9_best_24 ?_
    exact ty_lret hx hb hr hlk hG hS (by first | exact Or.inl ⟨rfl, by omega⟩ | exact Or.inr ⟨rfl, by omega⟩ | exact Or.inr (Or.inl ⟨rfl, by omega⟩) | exact Or.inr (Or.inr ⟨rfl, by omega⟩) | exact ⟨rfl, by omega⟩ | omega | trivial | rfl | (exfalso; omega)) dX9_best_27
  · skip
    refine lv_if_ne (tgt := 24) hx hb dX9_best_4 (by decide) (fun q => absurd rfl q) (fun _ => ?_)
    refine lv_iload_n hx hb dX9_best_7 rfl (lv_at hl 2 rfl) ?_
    refine lv_pc (pc2 := 8) rfl ?_
    refine lv_iconst (v := 1) hx hb dX9_best_8 (by decide) ?_
    refine lv_bipush (v := 6) hx hb dX9_best_9 (by decide) ?_
    refine ty_calli ((W.runS (As := [.int a2, .int 1, .int 6]) (rest := []) ⟨hx, hb, hml, hown, hts⟩ (c_isOutside l D t cI cL cC 0 0 a2 1 6 1 6 (by decide) (by decide) ) (va_cwS 3 hts gu_X9_best_X9_isOutside_99 rfl rfl rfl (by decide +kernel) ⟨Nat.le_of_ble_eq_true rfl, Nat.le_of_ble_eq_true rfl⟩) (tP_S hG hE) rfl rfl hl.1 rfl (lv_room (Nat.le_of_ble_eq_true rfl)) dX9_best_11 ⟨Nat.le_of_ble_eq_true rfl, Nat.le_of_ble_eq_true rfl⟩)) hS (fun _ h => h) (fun r_4 H locs hp_5 hG hS o_6 => ?_)
    rcases hp_5 with ⟨rfl, hc_103⟩ | ⟨rfl, hc_104, hc_105⟩
    · skip
      refine lv_if_ne (tgt := 24) hx hb dX9_best_14 (by decide) (fun _ => ?_) (fun q => absurd q (by decide))
      refine lv_ldc2 hx hb hown (hts (.constantLong RX9 158 (-1)) (List.mem_of_getElem? (i := 4) rfl)) dX9_best_24 ?_
      exact ty_lret hx hb hr hlk hG hS (by first | exact Or.inl ⟨rfl, by omega⟩ | exact Or.inr ⟨rfl, by omega⟩ | exact Or.inr (Or.inl ⟨rfl, by omega⟩) | exact Or.inr (Or.inr ⟨rfl, by omega⟩) | exact ⟨rfl, by omega⟩ | omega | trivial | rfl | (exfalso; omega)) dX9_best_27
    · skip
      refine lv_if_ne (tgt := 24) hx hb dX9_best_14 (by decide) (fun q => absurd rfl q) (fun _ => ?_)
      refine lv_iload_n hx hb dX9_best_17 rfl (lv_at hl 3 rfl) ?_
      refine lv_pc (pc2 := 18) rfl ?_
      refine ty_calli ((W.runS (As := [.int a3]) (rest := []) ⟨hx, hb, hml, hown, hts⟩ (c_isNoGauge l D t cI cL cC 0 0 a3 ) (va_cwS 1 hts gu_X9_best_X9_isNoGauge_205 rfl rfl rfl (by decide +kernel) ⟨Nat.le_of_ble_eq_true rfl, Nat.le_of_ble_eq_true rfl⟩) (tP_S hG hE) rfl rfl hl.1 rfl (lv_room (Nat.le_of_ble_eq_true rfl)) dX9_best_18 ⟨Nat.le_of_ble_eq_true rfl, Nat.le_of_ble_eq_true rfl⟩)) hS (fun _ h => h) (fun r_7 H locs hp_8 hG hS o_9 => ?_)
      rcases hp_8 with ⟨rfl, hc_106⟩ | ⟨rfl, hc_107, hc_108⟩
      · skip
        refine lv_if_eq (tgt := 28) hx hb dX9_best_21 (by decide) (fun q => absurd q (by decide)) (fun _ => ?_)
        refine lv_ldc2 hx hb hown (hts (.constantLong RX9 158 (-1)) (List.mem_of_getElem? (i := 4) rfl)) dX9_best_24 ?_
        exact ty_lret hx hb hr hlk hG hS (by first | exact Or.inl ⟨rfl, by omega⟩ | exact Or.inr ⟨rfl, by omega⟩ | exact Or.inr (Or.inl ⟨rfl, by omega⟩) | exact Or.inr (Or.inr ⟨rfl, by omega⟩) | exact ⟨rfl, by omega⟩ | omega | trivial | rfl | (exfalso; omega)) dX9_best_27
      · skip
        refine lv_if_eq (tgt := 28) hx hb dX9_best_21 (by decide) (fun _ => ?_) (fun q => absurd (by decide) q)
        refine lv_iload hx hb dX9_best_28 (lv_at hl 4 rfl) ?_
        refine ty_calli ((W.runS (As := [.int a4]) (rest := []) ⟨hx, hb, hml, hown, hts⟩ (c_isNoStore l D t cI cL cC 0 0 a4 ) (va_cwS 1 hts gu_X9_best_X9_isNoStore_155 rfl rfl rfl (by decide +kernel) ⟨Nat.le_of_ble_eq_true rfl, Nat.le_of_ble_eq_true rfl⟩) (tP_S hG hE) rfl rfl hl.1 rfl (lv_room (Nat.le_of_ble_eq_true rfl)) dX9_best_30 ⟨Nat.le_of_ble_eq_true rfl, Nat.le_of_ble_eq_true rfl⟩)) hS (fun _ h => h) (fun r_10 H locs hp_11 hG hS o_12 => ?_)
        rcases hp_11 with ⟨rfl, hc_109⟩ | ⟨rfl, hc_110, hc_111⟩
        · skip
          refine lv_if_ne (tgt := 46) hx hb dX9_best_33 (by decide) (fun _ => ?_) (fun q => absurd q (by decide))
          refine lv_pc (pc2 := 46) rfl ?_
          refine lv_ldc2 hx hb hown (hts (.constantLong RX9 158 (-1)) (List.mem_of_getElem? (i := 4) rfl)) dX9_best_46 ?_
          exact ty_lret hx hb hr hlk hG hS (by first | exact Or.inl ⟨rfl, by omega⟩ | exact Or.inr ⟨rfl, by omega⟩ | exact Or.inr (Or.inl ⟨rfl, by omega⟩) | exact Or.inr (Or.inr ⟨rfl, by omega⟩) | exact ⟨rfl, by omega⟩ | omega | trivial | rfl | (exfalso; omega)) dX9_best_49
        · skip
          refine lv_if_ne (tgt := 46) hx hb dX9_best_33 (by decide) (fun q => absurd rfl q) (fun _ => ?_)
          refine lv_iload hx hb dX9_best_36 (lv_at hl 6 rfl) ?_
          refine lv_iconst (v := (-1)) hx hb dX9_best_38 (by decide) ?_
          refine lv_iconst (v := 3) hx hb dX9_best_39 (by decide) ?_
          refine ty_calli ((W.runS (As := [.int a6, .int (-1), .int 3]) (rest := []) ⟨hx, hb, hml, hown, hts⟩ (c_isOutside l D t cI cL cC 0 0 a6 (-1) 3 (-1) 3 (by decide) (by decide) ) (va_cwS 3 hts gu_X9_best_X9_isOutside_99 rfl rfl rfl (by decide +kernel) ⟨Nat.le_of_ble_eq_true rfl, Nat.le_of_ble_eq_true rfl⟩) (tP_S hG hE) rfl rfl hl.1 rfl (lv_room (Nat.le_of_ble_eq_true rfl)) dX9_best_40 ⟨Nat.le_of_ble_eq_true rfl, Nat.le_of_ble_eq_true rfl⟩)) hS (fun _ h => h) (fun r_13 H locs hp_14 hG hS o_15 => ?_)
          rcases hp_14 with ⟨rfl, hc_112⟩ | ⟨rfl, hc_113, hc_114⟩
          · skip
            refine lv_if_eq (tgt := 50) hx hb dX9_best_43 (by decide) (fun q => absurd q (by decide)) (fun _ => ?_)
            refine lv_pc (pc2 := 46) rfl ?_
            refine lv_ldc2 hx hb hown (hts (.constantLong RX9 158 (-1)) (List.mem_of_getElem? (i := 4) rfl)) dX9_best_46 ?_
            exact ty_lret hx hb hr hlk hG hS (by first | exact Or.inl ⟨rfl, by omega⟩ | exact Or.inr ⟨rfl, by omega⟩ | exact Or.inr (Or.inl ⟨rfl, by omega⟩) | exact Or.inr (Or.inr ⟨rfl, by omega⟩) | exact ⟨rfl, by omega⟩ | omega | trivial | rfl | (exfalso; omega)) dX9_best_49
          · skip
            refine lv_if_eq (tgt := 50) hx hb dX9_best_43 (by decide) (fun _ => ?_) (fun q => absurd (by decide) q)
            refine lv_aload_n hx hb dX9_best_50 rfl (lv_at hl 0 rfl) ?_
            refine lv_iload_n hx hb dX9_best_51 rfl (lv_at hl 1 rfl) ?_
            obtain ⟨r_16, r_18, r_20, r_22, r_24, r_26, r_28, r_30, r_32, r_34, r_36, r_38, r_40, r_42, r_44, at_46, h_17, h_19, h_21, h_23, h_25, h_27, h_29, h_31, h_33, h_35, h_37, h_39, h_41, h_43, h_45⟩ := fF_o1 hG k_a0
            refine ty_calli ((W.runV (As := [.int a1]) (rest := []) ⟨hx, hb, hml, hown, hts⟩ (c_X9_lacksGate l D t cI cL cC a0 a1 k_a0) (cwV 1 hts gu_X9_best_X9_lacksGate_179 rfl rfl rfl (by decide +kernel) ⟨Nat.le_of_ble_eq_true rfl, Nat.le_of_ble_eq_true rfl⟩) (tP_V hG hE at_46 rfl) rfl rfl hl.1 rfl (lv_room (Nat.le_of_ble_eq_true rfl)) dX9_best_52 ⟨Nat.le_of_ble_eq_true rfl, Nat.le_of_ble_eq_true rfl⟩)) hS (fun _ h => h) (fun r_47 H locs hp_48 hG hS o_49 => ?_)
            have at_46 := va_at.keptC at_46 o_49 k_a0 rfl
            rcases hp_48 with rfl
            refine lv_if_ne (tgt := 85) hx hb dX9_best_55 (by decide) (fun _ => ?_) (fun q => absurd q (by decide))
            refine lv_ldc2 hx hb hown (hts (.constantLong RX9 163 (-2)) (List.mem_of_getElem? (i := 14) rfl)) dX9_best_85 ?_
            refine lv_pc (pc2 := 88) rfl ?_
            exact ty_lret hx hb hr hlk hG hS (by first | exact Or.inl ⟨rfl, by omega⟩ | exact Or.inr ⟨rfl, by omega⟩ | exact Or.inr (Or.inl ⟨rfl, by omega⟩) | exact Or.inr (Or.inr ⟨rfl, by omega⟩) | exact ⟨rfl, by omega⟩ | omega | trivial | rfl | (exfalso; omega)) dX9_best_88

def uX9_swap : List Cond := .code yX9_swap cX9_swap 2 (some .int) :: ([.methodLink RX9 127 yX9_isNoItem, .static yX9_isNoItem, .initialized RX9, .methodLink RX9 131 yX9_lacksItem, .instanceMethod yX9_lacksItem, .selects RX9 yX9_lacksItem yX9_lacksItem, .code yX9_isNoItem cX9_isNoItem 1 (some .boolean), .code yX9_lacksItem cX9_lacksItem 2 (some .boolean), .fieldLink RX9 29 "RiverModel" "isBuilt" "Z"] ++ wsX90)
set_option maxRecDepth 20000 in
theorem gu_X9_swap_X9_isNoItem_127 : GoodIn uX9_swap (va_wsS RX9 127 yX9_isNoItem uX9_isNoItem) := goodIn_r _ [1, 2, 3, 7] (by decide +kernel) (by decide +kernel)
set_option maxRecDepth 20000 in
theorem gu_X9_swap_X9_lacksItem_131 : GoodIn uX9_swap (wsV RX9 131 RX9 yX9_lacksItem uX9_lacksItem) := goodIn_r _ [4, 5, 6, 3, 8, 9, 10, 11, 12, 13, 14, 15, 16, 17, 18, 19, 20, 21, 22, 23, 24, 25, 26, 27] (by decide +kernel) (by decide +kernel)
set_option maxHeartbeats 4000000 in
set_option maxRecDepth 100000 in
theorem c_X9_swap (l : Launch) (D : va_G) (t : Nat → Nat) (cI cL cC : ClassId) (a0 : Nat) (a1 : Int32) (k_a0 : t a0 = 1) : tM l yX9_swap uX9_swap 1 21 D (fF cI cL cC 0 0) (fF cI cL cC 0 0) t cI cL cC [.ref a0, .int a1] wr0 (pI (fun r => (r = (-1) ∧ (a1.toInt < 0 ∨ 39 < a1.toInt)) ∨ (r = (-2) ∧ 0 ≤ a1.toInt ∧ a1.toInt ≤ 39))) := by
  refine tM.ofW (cc := cX9_swap) (maxL := 2) (ret := (some .int)) (by decide) rfl (Nat.le_of_ble_eq_true rfl) ?_
  intro p e s m below meth c hx hb hr hml hown hts hlk H locs hG hK hE hS ls hl
  have hl : lv_has ls 2 [(0, .ref a0), (1, .int a1)] := hl
  skip
  refine lv_iload_n hx hb dX9_swap_0 rfl (lv_at hl 1 rfl) ?_
  refine ty_calli ((W.runS (As := [.int a1]) (rest := []) ⟨hx, hb, hml, hown, hts⟩ (c_isNoItem l D t cI cL cC 0 0 a1 ) (va_cwS 1 hts gu_X9_swap_X9_isNoItem_127 rfl rfl rfl (by decide +kernel) ⟨Nat.le_of_ble_eq_true rfl, Nat.le_of_ble_eq_true rfl⟩) (tP_S hG hE) rfl rfl hl.1 rfl (lv_room (Nat.le_of_ble_eq_true rfl)) dX9_swap_1 ⟨Nat.le_of_ble_eq_true rfl, Nat.le_of_ble_eq_true rfl⟩)) hS (fun _ h => h) (fun r_1 H locs hp_2 hG hS o_3 => ?_)
  rcases hp_2 with ⟨rfl, hc_115⟩ | ⟨rfl, hc_116, hc_117⟩
  · skip
    refine lv_if_eq (tgt := 9) hx hb dX9_swap_4 (by decide) (fun q => absurd q (by decide)) (fun _ => ?_)
    refine lv_iconst (v := (-1)) hx hb dX9_swap_7 (by decide) ?_
    exact ty_iret hx hb hr hlk hG hS (by first | exact Or.inl ⟨rfl, by omega⟩ | exact Or.inr ⟨rfl, by omega⟩ | exact Or.inr (Or.inl ⟨rfl, by omega⟩) | exact Or.inr (Or.inr ⟨rfl, by omega⟩) | exact ⟨rfl, by omega⟩ | omega | trivial | rfl | (exfalso; omega)) dX9_swap_8
  · skip
    refine lv_if_eq (tgt := 9) hx hb dX9_swap_4 (by decide) (fun _ => ?_) (fun q => absurd (by decide) q)
    refine lv_aload_n hx hb dX9_swap_9 rfl (lv_at hl 0 rfl) ?_
    refine lv_pc (pc2 := 10) rfl ?_
    refine lv_iload_n hx hb dX9_swap_10 rfl (lv_at hl 1 rfl) ?_
    obtain ⟨r_4, r_6, r_8, r_10, r_12, r_14, r_16, r_18, r_20, r_22, r_24, r_26, r_28, r_30, r_32, at_34, h_5, h_7, h_9, h_11, h_13, h_15, h_17, h_19, h_21, h_23, h_25, h_27, h_29, h_31, h_33⟩ := fF_o1 hG k_a0
    refine ty_calli ((W.runV (As := [.int a1]) (rest := []) ⟨hx, hb, hml, hown, hts⟩ (c_X9_lacksItem l D t cI cL cC a0 a1 k_a0) (cwV 1 hts gu_X9_swap_X9_lacksItem_131 rfl rfl rfl (by decide +kernel) ⟨Nat.le_of_ble_eq_true rfl, Nat.le_of_ble_eq_true rfl⟩) (tP_V hG hE at_34 rfl) rfl rfl hl.1 rfl (lv_room (Nat.le_of_ble_eq_true rfl)) dX9_swap_11 ⟨Nat.le_of_ble_eq_true rfl, Nat.le_of_ble_eq_true rfl⟩)) hS (fun _ h => h) (fun r_35 H locs hp_36 hG hS o_37 => ?_)
    have at_34 := va_at.keptC at_34 o_37 k_a0 rfl
    rcases hp_36 with rfl
    refine lv_if_ne (tgt := 45) hx hb dX9_swap_14 (by decide) (fun _ => ?_) (fun q => absurd q (by decide))
    refine lv_bipush (v := (-2)) hx hb dX9_swap_45 (by decide) ?_
    exact ty_iret hx hb hr hlk hG hS (by first | exact Or.inl ⟨rfl, by omega⟩ | exact Or.inr ⟨rfl, by omega⟩ | exact Or.inr (Or.inl ⟨rfl, by omega⟩) | exact Or.inr (Or.inr ⟨rfl, by omega⟩) | exact ⟨rfl, by omega⟩ | omega | trivial | rfl | (exfalso; omega)) dX9_swap_47

def uX9_swapped : List Cond := .code yX9_swapped cX9_swapped 9 (some .long) :: ([.methodLink RX9 205 yX9_isNoGauge, .static yX9_isNoGauge, .initialized RX9, .constantLong RX9 158 (-1), .methodLink RX9 99 yX9_isOutside, .static yX9_isOutside, .fieldLink RX9 33 "RiverModel" "isOtherLaid" "Z", .constantLong RX9 163 (-2), .code yX9_isNoGauge cX9_isNoGauge 1 (some .boolean), .code yX9_isOutside cX9_isOutside 3 (some .boolean)] ++ wsX90)
set_option maxRecDepth 20000 in
theorem gu_X9_swapped_X9_isNoGauge_205 : GoodIn uX9_swapped (va_wsS RX9 205 yX9_isNoGauge uX9_isNoGauge) := goodIn_r _ [1, 2, 3, 9] (by decide +kernel) (by decide +kernel)
set_option maxRecDepth 20000 in
theorem gu_X9_swapped_X9_isOutside_99 : GoodIn uX9_swapped (va_wsS RX9 99 yX9_isOutside uX9_isOutside) := goodIn_r _ [5, 6, 3, 10] (by decide +kernel) (by decide +kernel)
set_option maxHeartbeats 4000000 in
set_option maxRecDepth 100000 in
theorem c_X9_swapped (l : Launch) (D : va_G) (t : Nat → Nat) (cI cL cC : ClassId) (a0 : Nat) (a1 : Int32) (a2 : Int32) (a3 : Int32) (k_a0 : t a0 = 1) : tM l yX9_swapped uX9_swapped 1 22 D (fF cI cL cC 0 0) (fF cI cL cC 0 0) t cI cL cC [.ref a0, .int a1, .int a2, .int a3] wr0 (pL (fun r => (r = (-1) ∧ (a1.toInt < 0 ∨ 3 < a1.toInt ∨ a2.toInt < 1 ∨ 96 < a2.toInt ∨ a3.toInt < 0 ∨ 1 < a3.toInt)) ∨ (r = (-2) ∧ 0 ≤ a1.toInt ∧ a1.toInt ≤ 3 ∧ 1 ≤ a2.toInt ∧ a2.toInt ≤ 96 ∧ 0 ≤ a3.toInt ∧ a3.toInt ≤ 1))) := by
  refine tM.ofW (cc := cX9_swapped) (maxL := 9) (ret := (some .long)) (by decide) rfl (Nat.le_of_ble_eq_true rfl) ?_
  intro p e s m below meth c hx hb hr hml hown hts hlk H locs hG hK hE hS ls hl
  have hl : lv_has ls 9 [(0, .ref a0), (1, .int a1), (2, .int a2), (3, .int a3)] := hl
  have in9 : ∀ w ∈ wsX90, w ∈ uX9_swapped := fun w h => List.mem_cons_of_mem _ (List.mem_append_right _ h)
  refine lv_iload_n hx hb dX9_swapped_0 rfl (lv_at hl 1 rfl) ?_
  refine ty_calli ((W.runS (As := [.int a1]) (rest := []) ⟨hx, hb, hml, hown, hts⟩ (c_isNoGauge l D t cI cL cC 0 0 a1 ) (va_cwS 1 hts gu_X9_swapped_X9_isNoGauge_205 rfl rfl rfl (by decide +kernel) ⟨Nat.le_of_ble_eq_true rfl, Nat.le_of_ble_eq_true rfl⟩) (tP_S hG hE) rfl rfl hl.1 rfl (lv_room (Nat.le_of_ble_eq_true rfl)) dX9_swapped_1 ⟨Nat.le_of_ble_eq_true rfl, Nat.le_of_ble_eq_true rfl⟩)) hS (fun _ h => h) (fun r_1 H locs hp_2 hG hS o_3 => ?_)
  rcases hp_2 with ⟨rfl, hc_118⟩ | ⟨rfl, hc_119, hc_120⟩
  · skip
    refine lv_if_ne (tgt := 26) hx hb dX9_swapped_4 (by decide) (fun _ => ?_) (fun q => absurd q (by decide))
    refine lv_ldc2 hx hb hown (hts (.constantLong RX9 158 (-1)) (List.mem_of_getElem? (i := 4) rfl)) dX9_swapped_26 ?_
    exact ty_lret hx hb hr hlk hG hS (by first | exact Or.inl ⟨rfl, by omega⟩ | exact Or.inr ⟨rfl, by omega⟩ | exact Or.inr (Or.inl ⟨rfl, by omega⟩) | exact Or.inr (Or.inr ⟨rfl, by omega⟩) | exact ⟨rfl, by omega⟩ | omega | trivial | rfl | (exfalso; omega)) dX9_swapped_29
  · skip
    refine lv_if_ne (tgt := 26) hx hb dX9_swapped_4 (by decide) (fun q => absurd rfl q) (fun _ => ?_)
    refine lv_iload_n hx hb dX9_swapped_7 rfl (lv_at hl 2 rfl) ?_
    refine lv_pc (pc2 := 8) rfl ?_
    refine lv_iconst (v := 1) hx hb dX9_swapped_8 (by decide) ?_
    refine lv_bipush (v := 96) hx hb dX9_swapped_9 (by decide) ?_
    refine ty_calli ((W.runS (As := [.int a2, .int 1, .int 96]) (rest := []) ⟨hx, hb, hml, hown, hts⟩ (c_isOutside l D t cI cL cC 0 0 a2 1 96 1 96 (by decide) (by decide) ) (va_cwS 3 hts gu_X9_swapped_X9_isOutside_99 rfl rfl rfl (by decide +kernel) ⟨Nat.le_of_ble_eq_true rfl, Nat.le_of_ble_eq_true rfl⟩) (tP_S hG hE) rfl rfl hl.1 rfl (lv_room (Nat.le_of_ble_eq_true rfl)) dX9_swapped_11 ⟨Nat.le_of_ble_eq_true rfl, Nat.le_of_ble_eq_true rfl⟩)) hS (fun _ h => h) (fun r_4 H locs hp_5 hG hS o_6 => ?_)
    rcases hp_5 with ⟨rfl, hc_121⟩ | ⟨rfl, hc_122, hc_123⟩
    · skip
      refine lv_if_ne (tgt := 26) hx hb dX9_swapped_14 (by decide) (fun _ => ?_) (fun q => absurd q (by decide))
      refine lv_ldc2 hx hb hown (hts (.constantLong RX9 158 (-1)) (List.mem_of_getElem? (i := 4) rfl)) dX9_swapped_26 ?_
      exact ty_lret hx hb hr hlk hG hS (by first | exact Or.inl ⟨rfl, by omega⟩ | exact Or.inr ⟨rfl, by omega⟩ | exact Or.inr (Or.inl ⟨rfl, by omega⟩) | exact Or.inr (Or.inr ⟨rfl, by omega⟩) | exact ⟨rfl, by omega⟩ | omega | trivial | rfl | (exfalso; omega)) dX9_swapped_29
    · skip
      refine lv_if_ne (tgt := 26) hx hb dX9_swapped_14 (by decide) (fun q => absurd rfl q) (fun _ => ?_)
      refine lv_iload_n hx hb dX9_swapped_17 rfl (lv_at hl 3 rfl) ?_
      refine lv_pc (pc2 := 18) rfl ?_
      refine lv_iconst (v := 0) hx hb dX9_swapped_18 (by decide) ?_
      refine lv_iconst (v := 1) hx hb dX9_swapped_19 (by decide) ?_
      refine ty_calli ((W.runS (As := [.int a3, .int 0, .int 1]) (rest := []) ⟨hx, hb, hml, hown, hts⟩ (c_isOutside l D t cI cL cC 0 0 a3 0 1 0 1 (by decide) (by decide) ) (va_cwS 3 hts gu_X9_swapped_X9_isOutside_99 rfl rfl rfl (by decide +kernel) ⟨Nat.le_of_ble_eq_true rfl, Nat.le_of_ble_eq_true rfl⟩) (tP_S hG hE) rfl rfl hl.1 rfl (lv_room (Nat.le_of_ble_eq_true rfl)) dX9_swapped_20 ⟨Nat.le_of_ble_eq_true rfl, Nat.le_of_ble_eq_true rfl⟩)) hS (fun _ h => h) (fun r_7 H locs hp_8 hG hS o_9 => ?_)
      rcases hp_8 with ⟨rfl, hc_124⟩ | ⟨rfl, hc_125, hc_126⟩
      · skip
        refine lv_if_eq (tgt := 30) hx hb dX9_swapped_23 (by decide) (fun q => absurd q (by decide)) (fun _ => ?_)
        refine lv_ldc2 hx hb hown (hts (.constantLong RX9 158 (-1)) (List.mem_of_getElem? (i := 4) rfl)) dX9_swapped_26 ?_
        exact ty_lret hx hb hr hlk hG hS (by first | exact Or.inl ⟨rfl, by omega⟩ | exact Or.inr ⟨rfl, by omega⟩ | exact Or.inr (Or.inl ⟨rfl, by omega⟩) | exact Or.inr (Or.inr ⟨rfl, by omega⟩) | exact ⟨rfl, by omega⟩ | omega | trivial | rfl | (exfalso; omega)) dX9_swapped_29
      · skip
        refine lv_if_eq (tgt := 30) hx hb dX9_swapped_23 (by decide) (fun _ => ?_) (fun q => absurd (by decide) q)
        refine lv_aload_n hx hb dX9_swapped_30 rfl (lv_at hl 0 rfl) ?_
        refine lv_pc (pc2 := 31) rfl ?_
        obtain ⟨r_10, r_12, r_14, r_16, r_18, r_20, r_22, r_24, r_26, r_28, r_30, r_32, r_34, r_36, r_38, at_40, h_11, h_13, h_15, h_17, h_19, h_21, h_23, h_25, h_27, h_29, h_31, h_33, h_35, h_37, h_39⟩ := fF_o1 hG k_a0
        refine va_get (D := D) (ci := 8) (v := .int 0) (C := RX9) (T := TX9) (N := 18) hx hb hts in9 hown hK (va_one at_40) 0 rfl rfl 5 (by decide) (hts (.fieldLink RX9 33 "RiverModel" "isOtherLaid" "Z") (List.mem_of_getElem? (i := 7) rfl)) (fun _ h9 => h9) rfl dX9_swapped_31 ?_
        refine lv_if_eq (tgt := 45) hx hb dX9_swapped_34 (by decide) (fun _ => ?_) (fun q => absurd (by decide) q)
        refine lv_ldc2 hx hb hown (hts (.constantLong RX9 163 (-2)) (List.mem_of_getElem? (i := 8) rfl)) dX9_swapped_45 ?_
        exact ty_lret hx hb hr hlk hG hS (by first | exact Or.inl ⟨rfl, by omega⟩ | exact Or.inr ⟨rfl, by omega⟩ | exact Or.inr (Or.inl ⟨rfl, by omega⟩) | exact Or.inr (Or.inr ⟨rfl, by omega⟩) | exact ⟨rfl, by omega⟩ | omega | trivial | rfl | (exfalso; omega)) dX9_swapped_48

def uX9_laySwap : List Cond := .code yX9_laySwap cX9_laySwap 1 (some .int) :: ([.fieldLink RX9 33 "RiverModel" "isOtherLaid" "Z"] ++ wsX90)
set_option maxHeartbeats 4000000 in
set_option maxRecDepth 100000 in
theorem c_X9_laySwap (l : Launch) (D : va_G) (t : Nat → Nat) (cI cL cC : ClassId) (a0 : Nat) (k_a0 : t a0 = 1) : tM l yX9_laySwap uX9_laySwap 0 0 D (fF cI cL cC 0 0) (fF cI cL cC 0 0) t cI cL cC [.ref a0] wr0 (pI (fun r => r = (-2))) := by
  refine tM.ofW (cc := cX9_laySwap) (maxL := 1) (ret := (some .int)) (by decide) rfl (Nat.le_of_ble_eq_true rfl) ?_
  intro p e s m below meth c hx hb hr hml hown hts hlk H locs hG hK hE hS ls hl
  have hl : lv_has ls 1 [(0, .ref a0)] := hl
  have in9 : ∀ w ∈ wsX90, w ∈ uX9_laySwap := fun w h => List.mem_cons_of_mem _ (List.mem_append_right _ h)
  refine lv_aload_n hx hb dX9_laySwap_0 rfl (lv_at hl 0 rfl) ?_
  obtain ⟨r_1, r_3, r_5, r_7, r_9, r_11, r_13, r_15, r_17, r_19, r_21, r_23, r_25, r_27, r_29, at_31, h_2, h_4, h_6, h_8, h_10, h_12, h_14, h_16, h_18, h_20, h_22, h_24, h_26, h_28, h_30⟩ := fF_o1 hG k_a0
  refine va_get (D := D) (ci := 8) (v := .int 0) (C := RX9) (T := TX9) (N := 18) hx hb hts in9 hown hK (va_one at_31) 0 rfl rfl 5 (by decide) (hts (.fieldLink RX9 33 "RiverModel" "isOtherLaid" "Z") (List.mem_of_getElem? (i := 1) rfl)) (fun _ h9 => h9) rfl dX9_laySwap_1 ?_
  refine lv_if_ne (tgt := 10) hx hb dX9_laySwap_4 (by decide) (fun q => absurd rfl q) (fun _ => ?_)
  refine lv_bipush (v := (-2)) hx hb dX9_laySwap_7 (by decide) ?_
  exact ty_iret hx hb hr hlk hG hS (by first | exact Or.inl ⟨rfl, by omega⟩ | exact Or.inr ⟨rfl, by omega⟩ | exact Or.inr (Or.inl ⟨rfl, by omega⟩) | exact Or.inr (Or.inr ⟨rfl, by omega⟩) | exact ⟨rfl, by omega⟩ | omega | trivial | rfl | (exfalso; omega)) dX9_laySwap_9

def uX9_startB : List Cond := .code yX9_startB cX9_startB 4 (some .int) :: ([.methodLink RX9 155 yX9_isNoStore, .static yX9_isNoStore, .initialized RX9, .constant RX9 231 (1000000), .methodLink RX9 99 yX9_isOutside, .static yX9_isOutside, .methodLink RX9 160 yX9_lacksStore, .instanceMethod yX9_lacksStore, .selects RX9 yX9_lacksStore yX9_lacksStore, .code yX9_isNoStore cX9_isNoStore 1 (some .boolean), .code yX9_isOutside cX9_isOutside 3 (some .boolean), .code yX9_lacksStore cX9_lacksStore 2 (some .boolean), .fieldLink RX9 29 "RiverModel" "isBuilt" "Z"] ++ wsX90)
set_option maxRecDepth 20000 in
theorem gu_X9_startB_X9_isNoStore_155 : GoodIn uX9_startB (va_wsS RX9 155 yX9_isNoStore uX9_isNoStore) := goodIn_r _ [1, 2, 3, 10] (by decide +kernel) (by decide +kernel)
set_option maxRecDepth 20000 in
theorem gu_X9_startB_X9_isOutside_99 : GoodIn uX9_startB (va_wsS RX9 99 yX9_isOutside uX9_isOutside) := goodIn_r _ [5, 6, 3, 11] (by decide +kernel) (by decide +kernel)
set_option maxRecDepth 20000 in
theorem gu_X9_startB_X9_lacksStore_160 : GoodIn uX9_startB (wsV RX9 160 RX9 yX9_lacksStore uX9_lacksStore) := goodIn_r _ [7, 8, 9, 3, 12, 13, 14, 15, 16, 17, 18, 19, 20, 21, 22, 23, 24, 25, 26, 27, 28, 29, 30, 31] (by decide +kernel) (by decide +kernel)
set_option maxHeartbeats 4000000 in
set_option maxRecDepth 100000 in
theorem c_X9_startB (l : Launch) (D : va_G) (t : Nat → Nat) (cI cL cC : ClassId) (a0 : Nat) (a1 : Int32) (a2 : Int32) (k_a0 : t a0 = 1) : tM l yX9_startB uX9_startB 1 22 D (fF cI cL cC 0 0) (fF cI cL cC 0 0) t cI cL cC [.ref a0, .int a1, .int a2] wr0 (pI (fun r => (r = (-1) ∧ (a1.toInt < 0 ∨ 15 < a1.toInt ∨ a2.toInt < 0 ∨ 1000000 < a2.toInt)) ∨ (r = (-2) ∧ 0 ≤ a1.toInt ∧ a1.toInt ≤ 15 ∧ 0 ≤ a2.toInt ∧ a2.toInt ≤ 1000000))) := by
  refine tM.ofW (cc := cX9_startB) (maxL := 4) (ret := (some .int)) (by decide) rfl (Nat.le_of_ble_eq_true rfl) ?_
  intro p e s m below meth c hx hb hr hml hown hts hlk H locs hG hK hE hS ls hl
  have hl : lv_has ls 4 [(0, .ref a0), (1, .int a1), (2, .int a2)] := hl
  skip
  refine lv_iload_n hx hb dX9_startB_0 rfl (lv_at hl 1 rfl) ?_
  refine ty_calli ((W.runS (As := [.int a1]) (rest := []) ⟨hx, hb, hml, hown, hts⟩ (c_isNoStore l D t cI cL cC 0 0 a1 ) (va_cwS 1 hts gu_X9_startB_X9_isNoStore_155 rfl rfl rfl (by decide +kernel) ⟨Nat.le_of_ble_eq_true rfl, Nat.le_of_ble_eq_true rfl⟩) (tP_S hG hE) rfl rfl hl.1 rfl (lv_room (Nat.le_of_ble_eq_true rfl)) dX9_startB_1 ⟨Nat.le_of_ble_eq_true rfl, Nat.le_of_ble_eq_true rfl⟩)) hS (fun _ h => h) (fun r_1 H locs hp_2 hG hS o_3 => ?_)
  rcases hp_2 with ⟨rfl, hc_127⟩ | ⟨rfl, hc_128, hc_129⟩
  · skip
    refine lv_if_ne (tgt := 17) hx hb dX9_startB_4 (by decide) (fun _ => ?_) (fun q => absurd q (by decide))
    refine lv_iconst (v := (-1)) hx hb dX9_startB_17 (by decide) ?_
    exact ty_iret hx hb hr hlk hG hS (by first | exact Or.inl ⟨rfl, by omega⟩ | exact Or.inr ⟨rfl, by omega⟩ | exact Or.inr (Or.inl ⟨rfl, by omega⟩) | exact Or.inr (Or.inr ⟨rfl, by omega⟩) | exact ⟨rfl, by omega⟩ | omega | trivial | rfl | (exfalso; omega)) dX9_startB_18
  · skip
    refine lv_if_ne (tgt := 17) hx hb dX9_startB_4 (by decide) (fun q => absurd rfl q) (fun _ => ?_)
    refine lv_iload_n hx hb dX9_startB_7 rfl (lv_at hl 2 rfl) ?_
    refine lv_pc (pc2 := 8) rfl ?_
    refine lv_iconst (v := 0) hx hb dX9_startB_8 (by decide) ?_
    refine lv_ldc hx hb hown (hts (.constant RX9 231 (1000000)) (List.mem_of_getElem? (i := 4) rfl)) dX9_startB_9 ?_
    refine ty_calli ((W.runS (As := [.int a2, .int 0, .int 1000000]) (rest := []) ⟨hx, hb, hml, hown, hts⟩ (c_isOutside l D t cI cL cC 0 0 a2 0 1000000 0 1000000 (by decide) (by decide) ) (va_cwS 3 hts gu_X9_startB_X9_isOutside_99 rfl rfl rfl (by decide +kernel) ⟨Nat.le_of_ble_eq_true rfl, Nat.le_of_ble_eq_true rfl⟩) (tP_S hG hE) rfl rfl hl.1 rfl (lv_room (Nat.le_of_ble_eq_true rfl)) dX9_startB_11 ⟨Nat.le_of_ble_eq_true rfl, Nat.le_of_ble_eq_true rfl⟩)) hS (fun _ h => h) (fun r_4 H locs hp_5 hG hS o_6 => ?_)
    rcases hp_5 with ⟨rfl, hc_130⟩ | ⟨rfl, hc_131, hc_132⟩
    · skip
      refine lv_if_eq (tgt := 19) hx hb dX9_startB_14 (by decide) (fun q => absurd q (by decide)) (fun _ => ?_)
      refine lv_iconst (v := (-1)) hx hb dX9_startB_17 (by decide) ?_
      exact ty_iret hx hb hr hlk hG hS (by first | exact Or.inl ⟨rfl, by omega⟩ | exact Or.inr ⟨rfl, by omega⟩ | exact Or.inr (Or.inl ⟨rfl, by omega⟩) | exact Or.inr (Or.inr ⟨rfl, by omega⟩) | exact ⟨rfl, by omega⟩ | omega | trivial | rfl | (exfalso; omega)) dX9_startB_18
    · skip
      refine lv_if_eq (tgt := 19) hx hb dX9_startB_14 (by decide) (fun _ => ?_) (fun q => absurd (by decide) q)
      refine lv_aload_n hx hb dX9_startB_19 rfl (lv_at hl 0 rfl) ?_
      refine lv_pc (pc2 := 20) rfl ?_
      refine lv_iload_n hx hb dX9_startB_20 rfl (lv_at hl 1 rfl) ?_
      obtain ⟨r_7, r_9, r_11, r_13, r_15, r_17, r_19, r_21, r_23, r_25, r_27, r_29, r_31, r_33, r_35, at_37, h_8, h_10, h_12, h_14, h_16, h_18, h_20, h_22, h_24, h_26, h_28, h_30, h_32, h_34, h_36⟩ := fF_o1 hG k_a0
      refine ty_calli ((W.runV (As := [.int a1]) (rest := []) ⟨hx, hb, hml, hown, hts⟩ (c_X9_lacksStore l D t cI cL cC a0 a1 k_a0) (cwV 1 hts gu_X9_startB_X9_lacksStore_160 rfl rfl rfl (by decide +kernel) ⟨Nat.le_of_ble_eq_true rfl, Nat.le_of_ble_eq_true rfl⟩) (tP_V hG hE at_37 rfl) rfl rfl hl.1 rfl (lv_room (Nat.le_of_ble_eq_true rfl)) dX9_startB_21 ⟨Nat.le_of_ble_eq_true rfl, Nat.le_of_ble_eq_true rfl⟩)) hS (fun _ h => h) (fun r_38 H locs hp_39 hG hS o_40 => ?_)
      have at_37 := va_at.keptC at_37 o_40 k_a0 rfl
      rcases hp_39 with rfl
      refine lv_if_eq (tgt := 30) hx hb dX9_startB_24 (by decide) (fun q => absurd q (by decide)) (fun _ => ?_)
      refine lv_bipush (v := (-2)) hx hb dX9_startB_27 (by decide) ?_
      exact ty_iret hx hb hr hlk hG hS (by first | exact Or.inl ⟨rfl, by omega⟩ | exact Or.inr ⟨rfl, by omega⟩ | exact Or.inr (Or.inl ⟨rfl, by omega⟩) | exact Or.inr (Or.inr ⟨rfl, by omega⟩) | exact ⟨rfl, by omega⟩ | omega | trivial | rfl | (exfalso; omega)) dX9_startB_29

def uX9_blame : List Cond := .code yX9_blame cX9_blame 4 (some .long) :: ([.methodLink RX9 205 yX9_isNoGauge, .static yX9_isNoGauge, .initialized RX9, .constantLong RX9 323 (-1000000000000000000), .methodLink RX9 99 yX9_isOutside, .static yX9_isOutside, .methodLink RX9 212 yX9_lacksGauge, .instanceMethod yX9_lacksGauge, .selects RX9 yX9_lacksGauge yX9_lacksGauge, .constantLong RX9 325 (-1000000000000000001), .code yX9_isNoGauge cX9_isNoGauge 1 (some .boolean), .code yX9_isOutside cX9_isOutside 3 (some .boolean), .code yX9_lacksGauge cX9_lacksGauge 2 (some .boolean), .fieldLink RX9 29 "RiverModel" "isBuilt" "Z"] ++ wsX90)
set_option maxRecDepth 20000 in
theorem gu_X9_blame_X9_isNoGauge_205 : GoodIn uX9_blame (va_wsS RX9 205 yX9_isNoGauge uX9_isNoGauge) := goodIn_r _ [1, 2, 3, 11] (by decide +kernel) (by decide +kernel)
set_option maxRecDepth 20000 in
theorem gu_X9_blame_X9_isOutside_99 : GoodIn uX9_blame (va_wsS RX9 99 yX9_isOutside uX9_isOutside) := goodIn_r _ [5, 6, 3, 12] (by decide +kernel) (by decide +kernel)
set_option maxRecDepth 20000 in
theorem gu_X9_blame_X9_lacksGauge_212 : GoodIn uX9_blame (wsV RX9 212 RX9 yX9_lacksGauge uX9_lacksGauge) := goodIn_r _ [7, 8, 9, 3, 13, 14, 15, 16, 17, 18, 19, 20, 21, 22, 23, 24, 25, 26, 27, 28, 29, 30, 31, 32] (by decide +kernel) (by decide +kernel)
set_option maxHeartbeats 4000000 in
set_option maxRecDepth 100000 in
theorem c_X9_blame (l : Launch) (D : va_G) (t : Nat → Nat) (cI cL cC : ClassId) (a0 : Nat) (a1 : Int32) (a2 : Int32) (a3 : Int32) (k_a0 : t a0 = 1) : tM l yX9_blame uX9_blame 1 22 D (fF cI cL cC 0 0) (fF cI cL cC 0 0) t cI cL cC [.ref a0, .int a1, .int a2, .int a3] wr0 (pL (fun r => (r = (-1000000000000000000) ∧ (a1.toInt < 0 ∨ 3 < a1.toInt ∨ a2.toInt < 0 ∨ 95 < a2.toInt ∨ a3.toInt < 0 ∨ 3 < a3.toInt)) ∨ (r = (-1000000000000000001) ∧ 0 ≤ a1.toInt ∧ a1.toInt ≤ 3 ∧ 0 ≤ a2.toInt ∧ a2.toInt ≤ 95 ∧ 0 ≤ a3.toInt ∧ a3.toInt ≤ 3))) := by
  refine tM.ofW (cc := cX9_blame) (maxL := 4) (ret := (some .long)) (by decide) rfl (Nat.le_of_ble_eq_true rfl) ?_
  intro p e s m below meth c hx hb hr hml hown hts hlk H locs hG hK hE hS ls hl
  have hl : lv_has ls 4 [(0, .ref a0), (1, .int a1), (2, .int a2), (3, .int a3)] := hl
  skip
  refine lv_iload_n hx hb dX9_blame_0 rfl (lv_at hl 1 rfl) ?_
  refine ty_calli ((W.runS (As := [.int a1]) (rest := []) ⟨hx, hb, hml, hown, hts⟩ (c_isNoGauge l D t cI cL cC 0 0 a1 ) (va_cwS 1 hts gu_X9_blame_X9_isNoGauge_205 rfl rfl rfl (by decide +kernel) ⟨Nat.le_of_ble_eq_true rfl, Nat.le_of_ble_eq_true rfl⟩) (tP_S hG hE) rfl rfl hl.1 rfl (lv_room (Nat.le_of_ble_eq_true rfl)) dX9_blame_1 ⟨Nat.le_of_ble_eq_true rfl, Nat.le_of_ble_eq_true rfl⟩)) hS (fun _ h => h) (fun r_1 H locs hp_2 hG hS o_3 => ?_)
  rcases hp_2 with ⟨rfl, hc_133⟩ | ⟨rfl, hc_134, hc_135⟩
  · skip
    refine lv_if_ne (tgt := 26) hx hb dX9_blame_4 (by decide) (fun _ => ?_) (fun q => absurd q (by decide))
    refine lv_ldc2 hx hb hown (hts (.constantLong RX9 323 (-1000000000000000000)) (List.mem_of_getElem? (i := 4) rfl)) dX9_blame_26 ?_
    exact ty_lret hx hb hr hlk hG hS (by first | exact Or.inl ⟨rfl, by omega⟩ | exact Or.inr ⟨rfl, by omega⟩ | exact Or.inr (Or.inl ⟨rfl, by omega⟩) | exact Or.inr (Or.inr ⟨rfl, by omega⟩) | exact ⟨rfl, by omega⟩ | omega | trivial | rfl | (exfalso; omega)) dX9_blame_29
  · skip
    refine lv_if_ne (tgt := 26) hx hb dX9_blame_4 (by decide) (fun q => absurd rfl q) (fun _ => ?_)
    refine lv_iload_n hx hb dX9_blame_7 rfl (lv_at hl 2 rfl) ?_
    refine lv_pc (pc2 := 8) rfl ?_
    refine lv_iconst (v := 0) hx hb dX9_blame_8 (by decide) ?_
    refine lv_bipush (v := 95) hx hb dX9_blame_9 (by decide) ?_
    refine ty_calli ((W.runS (As := [.int a2, .int 0, .int 95]) (rest := []) ⟨hx, hb, hml, hown, hts⟩ (c_isOutside l D t cI cL cC 0 0 a2 0 95 0 95 (by decide) (by decide) ) (va_cwS 3 hts gu_X9_blame_X9_isOutside_99 rfl rfl rfl (by decide +kernel) ⟨Nat.le_of_ble_eq_true rfl, Nat.le_of_ble_eq_true rfl⟩) (tP_S hG hE) rfl rfl hl.1 rfl (lv_room (Nat.le_of_ble_eq_true rfl)) dX9_blame_11 ⟨Nat.le_of_ble_eq_true rfl, Nat.le_of_ble_eq_true rfl⟩)) hS (fun _ h => h) (fun r_4 H locs hp_5 hG hS o_6 => ?_)
    rcases hp_5 with ⟨rfl, hc_136⟩ | ⟨rfl, hc_137, hc_138⟩
    · skip
      refine lv_if_ne (tgt := 26) hx hb dX9_blame_14 (by decide) (fun _ => ?_) (fun q => absurd q (by decide))
      refine lv_ldc2 hx hb hown (hts (.constantLong RX9 323 (-1000000000000000000)) (List.mem_of_getElem? (i := 4) rfl)) dX9_blame_26 ?_
      exact ty_lret hx hb hr hlk hG hS (by first | exact Or.inl ⟨rfl, by omega⟩ | exact Or.inr ⟨rfl, by omega⟩ | exact Or.inr (Or.inl ⟨rfl, by omega⟩) | exact Or.inr (Or.inr ⟨rfl, by omega⟩) | exact ⟨rfl, by omega⟩ | omega | trivial | rfl | (exfalso; omega)) dX9_blame_29
    · skip
      refine lv_if_ne (tgt := 26) hx hb dX9_blame_14 (by decide) (fun q => absurd rfl q) (fun _ => ?_)
      refine lv_iload_n hx hb dX9_blame_17 rfl (lv_at hl 3 rfl) ?_
      refine lv_pc (pc2 := 18) rfl ?_
      refine lv_iconst (v := 0) hx hb dX9_blame_18 (by decide) ?_
      refine lv_iconst (v := 3) hx hb dX9_blame_19 (by decide) ?_
      refine ty_calli ((W.runS (As := [.int a3, .int 0, .int 3]) (rest := []) ⟨hx, hb, hml, hown, hts⟩ (c_isOutside l D t cI cL cC 0 0 a3 0 3 0 3 (by decide) (by decide) ) (va_cwS 3 hts gu_X9_blame_X9_isOutside_99 rfl rfl rfl (by decide +kernel) ⟨Nat.le_of_ble_eq_true rfl, Nat.le_of_ble_eq_true rfl⟩) (tP_S hG hE) rfl rfl hl.1 rfl (lv_room (Nat.le_of_ble_eq_true rfl)) dX9_blame_20 ⟨Nat.le_of_ble_eq_true rfl, Nat.le_of_ble_eq_true rfl⟩)) hS (fun _ h => h) (fun r_7 H locs hp_8 hG hS o_9 => ?_)
      rcases hp_8 with ⟨rfl, hc_139⟩ | ⟨rfl, hc_140, hc_141⟩
      · skip
        refine lv_if_eq (tgt := 30) hx hb dX9_blame_23 (by decide) (fun q => absurd q (by decide)) (fun _ => ?_)
        refine lv_ldc2 hx hb hown (hts (.constantLong RX9 323 (-1000000000000000000)) (List.mem_of_getElem? (i := 4) rfl)) dX9_blame_26 ?_
        exact ty_lret hx hb hr hlk hG hS (by first | exact Or.inl ⟨rfl, by omega⟩ | exact Or.inr ⟨rfl, by omega⟩ | exact Or.inr (Or.inl ⟨rfl, by omega⟩) | exact Or.inr (Or.inr ⟨rfl, by omega⟩) | exact ⟨rfl, by omega⟩ | omega | trivial | rfl | (exfalso; omega)) dX9_blame_29
      · skip
        refine lv_if_eq (tgt := 30) hx hb dX9_blame_23 (by decide) (fun _ => ?_) (fun q => absurd (by decide) q)
        refine lv_aload_n hx hb dX9_blame_30 rfl (lv_at hl 0 rfl) ?_
        refine lv_pc (pc2 := 31) rfl ?_
        refine lv_iload_n hx hb dX9_blame_31 rfl (lv_at hl 1 rfl) ?_
        obtain ⟨r_10, r_12, r_14, r_16, r_18, r_20, r_22, r_24, r_26, r_28, r_30, r_32, r_34, r_36, r_38, at_40, h_11, h_13, h_15, h_17, h_19, h_21, h_23, h_25, h_27, h_29, h_31, h_33, h_35, h_37, h_39⟩ := fF_o1 hG k_a0
        refine ty_calli ((W.runV (As := [.int a1]) (rest := []) ⟨hx, hb, hml, hown, hts⟩ (c_X9_lacksGauge l D t cI cL cC a0 a1 k_a0) (cwV 1 hts gu_X9_blame_X9_lacksGauge_212 rfl rfl rfl (by decide +kernel) ⟨Nat.le_of_ble_eq_true rfl, Nat.le_of_ble_eq_true rfl⟩) (tP_V hG hE at_40 rfl) rfl rfl hl.1 rfl (lv_room (Nat.le_of_ble_eq_true rfl)) dX9_blame_32 ⟨Nat.le_of_ble_eq_true rfl, Nat.le_of_ble_eq_true rfl⟩)) hS (fun _ h => h) (fun r_41 H locs hp_42 hG hS o_43 => ?_)
        have at_40 := va_at.keptC at_40 o_43 k_a0 rfl
        rcases hp_42 with rfl
        refine lv_if_eq (tgt := 42) hx hb dX9_blame_35 (by decide) (fun q => absurd q (by decide)) (fun _ => ?_)
        refine lv_ldc2 hx hb hown (hts (.constantLong RX9 325 (-1000000000000000001)) (List.mem_of_getElem? (i := 10) rfl)) dX9_blame_38 ?_
        exact ty_lret hx hb hr hlk hG hS (by first | exact Or.inl ⟨rfl, by omega⟩ | exact Or.inr ⟨rfl, by omega⟩ | exact Or.inr (Or.inl ⟨rfl, by omega⟩) | exact Or.inr (Or.inr ⟨rfl, by omega⟩) | exact ⟨rfl, by omega⟩ | omega | trivial | rfl | (exfalso; omega)) dX9_blame_41

def uX9_keep : List Cond := .code yX9_keep cX9_keep 1 (some .int) :: ([.fieldLink RX9 29 "RiverModel" "isBuilt" "Z"] ++ wsX90)
set_option maxHeartbeats 4000000 in
set_option maxRecDepth 100000 in
theorem c_X9_keep (l : Launch) (D : va_G) (t : Nat → Nat) (cI cL cC : ClassId) (a0 : Nat) (k_a0 : t a0 = 1) : tM l yX9_keep uX9_keep 0 0 D (fF cI cL cC 0 0) (fF cI cL cC 0 0) t cI cL cC [.ref a0] wr0 (pI (fun r => r = (-2))) := by
  refine tM.ofW (cc := cX9_keep) (maxL := 1) (ret := (some .int)) (by decide) rfl (Nat.le_of_ble_eq_true rfl) ?_
  intro p e s m below meth c hx hb hr hml hown hts hlk H locs hG hK hE hS ls hl
  have hl : lv_has ls 1 [(0, .ref a0)] := hl
  have in9 : ∀ w ∈ wsX90, w ∈ uX9_keep := fun w h => List.mem_cons_of_mem _ (List.mem_append_right _ h)
  refine lv_aload_n hx hb dX9_keep_0 rfl (lv_at hl 0 rfl) ?_
  obtain ⟨r_1, r_3, r_5, r_7, r_9, r_11, r_13, r_15, r_17, r_19, r_21, r_23, r_25, r_27, r_29, at_31, h_2, h_4, h_6, h_8, h_10, h_12, h_14, h_16, h_18, h_20, h_22, h_24, h_26, h_28, h_30⟩ := fF_o1 hG k_a0
  refine va_get (D := D) (ci := 8) (v := .int 0) (C := RX9) (T := TX9) (N := 18) hx hb hts in9 hown hK (va_one at_31) 0 rfl rfl 4 (by decide) (hts (.fieldLink RX9 29 "RiverModel" "isBuilt" "Z") (List.mem_of_getElem? (i := 1) rfl)) (fun _ h9 => h9) rfl dX9_keep_1 ?_
  refine lv_if_ne (tgt := 10) hx hb dX9_keep_4 (by decide) (fun q => absurd rfl q) (fun _ => ?_)
  refine lv_bipush (v := (-2)) hx hb dX9_keep_7 (by decide) ?_
  exact ty_iret hx hb hr hlk hG hS (by first | exact Or.inl ⟨rfl, by omega⟩ | exact Or.inr ⟨rfl, by omega⟩ | exact Or.inr (Or.inl ⟨rfl, by omega⟩) | exact Or.inr (Or.inr ⟨rfl, by omega⟩) | exact ⟨rfl, by omega⟩ | omega | trivial | rfl | (exfalso; omega)) dX9_keep_9

def uX9_back : List Cond := .code yX9_back cX9_back 1 (some .int) :: ([.fieldLink RX9 67 "RiverModel" "keptMany" "I", .methodLink RX9 99 yX9_isOutside, .static yX9_isOutside, .initialized RX9, .code yX9_isOutside cX9_isOutside 3 (some .boolean)] ++ wsX90)
set_option maxRecDepth 20000 in
theorem gu_X9_back_X9_isOutside_99 : GoodIn uX9_back (va_wsS RX9 99 yX9_isOutside uX9_isOutside) := goodIn_r _ [2, 3, 4, 5] (by decide +kernel) (by decide +kernel)
set_option maxHeartbeats 4000000 in
set_option maxRecDepth 100000 in
theorem c_X9_back (l : Launch) (D : va_G) (t : Nat → Nat) (cI cL cC : ClassId) (a0 : Nat) (k_a0 : t a0 = 1) : tM l yX9_back uX9_back 1 22 D (fF cI cL cC 0 0) (fF cI cL cC 0 0) t cI cL cC [.ref a0] wr0 (pI (fun r => r = (-2))) := by
  refine tM.ofW (cc := cX9_back) (maxL := 1) (ret := (some .int)) (by decide) rfl (Nat.le_of_ble_eq_true rfl) ?_
  intro p e s m below meth c hx hb hr hml hown hts hlk H locs hG hK hE hS ls hl
  have hl : lv_has ls 1 [(0, .ref a0)] := hl
  have in9 : ∀ w ∈ wsX90, w ∈ uX9_back := fun w h => List.mem_cons_of_mem _ (List.mem_append_right _ h)
  refine lv_aload_n hx hb dX9_back_0 rfl (lv_at hl 0 rfl) ?_
  obtain ⟨r_1, r_3, r_5, r_7, r_9, r_11, r_13, r_15, r_17, r_19, r_21, r_23, r_25, r_27, r_29, at_31, h_2, h_4, h_6, h_8, h_10, h_12, h_14, h_16, h_18, h_20, h_22, h_24, h_26, h_28, h_30⟩ := fF_o1 hG k_a0
  refine va_get (D := D) (ci := 8) (v := .int 0) (C := RX9) (T := TX9) (N := 18) hx hb hts in9 hown hK (va_one at_31) 0 rfl rfl 13 (by decide) (hts (.fieldLink RX9 67 "RiverModel" "keptMany" "I") (List.mem_of_getElem? (i := 1) rfl)) (fun _ h9 => h9) rfl dX9_back_1 ?_
  refine lv_iconst (v := 1) hx hb dX9_back_4 (by decide) ?_
  refine lv_iconst (v := 3) hx hb dX9_back_5 (by decide) ?_
  refine ty_calli ((W.runS (As := [.int 0, .int 1, .int 3]) (rest := []) ⟨hx, hb, hml, hown, hts⟩ (c_isOutside l D t cI cL cC 0 0 0 1 3 1 3 (by decide) (by decide) ) (va_cwS 3 hts gu_X9_back_X9_isOutside_99 rfl rfl rfl (by decide +kernel) ⟨Nat.le_of_ble_eq_true rfl, Nat.le_of_ble_eq_true rfl⟩) (tP_S hG hE) rfl rfl hl.1 rfl (lv_room (Nat.le_of_ble_eq_true rfl)) dX9_back_6 ⟨Nat.le_of_ble_eq_true rfl, Nat.le_of_ble_eq_true rfl⟩)) hS (fun _ h => h) (fun r_32 H locs hp_33 hG hS o_34 => ?_)
  have at_31 := va_at.keptC at_31 o_34 k_a0 rfl
  rcases hp_33 with ⟨rfl, hc_142⟩ | ⟨rfl, hc_143, hc_144⟩
  · skip
    refine lv_if_eq (tgt := 15) hx hb dX9_back_9 (by decide) (fun q => absurd q (by decide)) (fun _ => ?_)
    refine lv_bipush (v := (-2)) hx hb dX9_back_12 (by decide) ?_
    refine lv_pc (pc2 := 14) rfl ?_
    exact ty_iret hx hb hr hlk hG hS (by first | exact Or.inl ⟨rfl, by omega⟩ | exact Or.inr ⟨rfl, by omega⟩ | exact Or.inr (Or.inl ⟨rfl, by omega⟩) | exact Or.inr (Or.inr ⟨rfl, by omega⟩) | exact ⟨rfl, by omega⟩ | omega | trivial | rfl | (exfalso; omega)) dX9_back_14
  · exact absurd (show _ ∧ _ from ⟨hc_143, hc_144⟩) (by decide)
