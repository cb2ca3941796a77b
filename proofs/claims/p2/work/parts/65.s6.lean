theorem dX9_item_0 : decode cX9_item 0 = .ok (.iload_n 1, 1) := by decide +kernel
theorem dX9_item_1 : decode cX9_item 1 = .ok (.invokestatic 127, 3) := by decide +kernel
theorem dX9_item_4 : decode cX9_item 4 = .ok (.ifCond .ne 12, 3) := by decide +kernel
theorem dX9_item_7 : decode cX9_item 7 = .ok (.iload_n 2, 1) := by decide +kernel
theorem dX9_item_8 : decode cX9_item 8 = .ok (.iconst 0, 1) := by decide +kernel
theorem dX9_item_9 : decode cX9_item 9 = .ok (.iconst 5, 1) := by decide +kernel
theorem dX9_item_10 : decode cX9_item 10 = .ok (.invokestatic 99, 3) := by decide +kernel
theorem dX9_item_13 : decode cX9_item 13 = .ok (.ifCond .eq 5, 3) := by decide +kernel
theorem dX9_item_16 : decode cX9_item 16 = .ok (.iconst (-1), 1) := by decide +kernel
theorem dX9_item_17 : decode cX9_item 17 = .ok (.ireturn, 1) := by decide +kernel
theorem dX9_item_18 : decode cX9_item 18 = .ok (.aload_n 0, 1) := by decide +kernel
theorem dX9_item_19 : decode cX9_item 19 = .ok (.iload_n 1, 1) := by decide +kernel
theorem dX9_item_20 : decode cX9_item 20 = .ok (.invokevirtual 131, 3) := by decide +kernel
theorem dX9_item_23 : decode cX9_item 23 = .ok (.ifCond .eq 8, 3) := by decide +kernel
theorem dX9_item_26 : decode cX9_item 26 = .ok (.bipush (-2), 2) := by decide +kernel
theorem dX9_item_28 : decode cX9_item 28 = .ok (.goto 12, 3) := by decide +kernel
theorem dX9_item_31 : decode cX9_item 31 = .ok (.aload_n 0, 1) := by decide +kernel
theorem dX9_item_32 : decode cX9_item 32 = .ok (.getfield 19, 3) := by decide +kernel
theorem dX9_item_35 : decode cX9_item 35 = .ok (.iload_n 1, 1) := by decide +kernel
theorem dX9_item_36 : decode cX9_item 36 = .ok (.iload_n 2, 1) := by decide +kernel
theorem dX9_item_37 : decode cX9_item 37 = .ok (.invokevirtual 134, 3) := by decide +kernel
theorem dX9_item_40 : decode cX9_item 40 = .ok (.ireturn, 1) := by decide +kernel
theorem dX9_anew_0 : decode cX9_anew 0 = .ok (.aload_n 0, 1) := by decide +kernel
theorem dX9_anew_1 : decode cX9_anew 1 = .ok (.getfield 29, 3) := by decide +kernel
theorem dX9_anew_4 : decode cX9_anew 4 = .ok (.ifCond .ne 6, 3) := by decide +kernel
theorem dX9_anew_7 : decode cX9_anew 7 = .ok (.bipush (-2), 2) := by decide +kernel
theorem dX9_anew_9 : decode cX9_anew 9 = .ok (.ireturn, 1) := by decide +kernel
theorem dX9_anew_10 : decode cX9_anew 10 = .ok (.aload_n 0, 1) := by decide +kernel
theorem dX9_anew_11 : decode cX9_anew 11 = .ok (.getfield 53, 3) := by decide +kernel
theorem dX9_anew_14 : decode cX9_anew 14 = .ok (.getfield 144, 3) := by decide +kernel
theorem dX9_anew_17 : decode cX9_anew 17 = .ok (.istore_n 1, 1) := by decide +kernel
theorem dX9_anew_18 : decode cX9_anew 18 = .ok (.aload_n 0, 1) := by decide +kernel
theorem dX9_anew_19 : decode cX9_anew 19 = .ok (.getfield 53, 3) := by decide +kernel
theorem dX9_anew_22 : decode cX9_anew 22 = .ok (.aload_n 0, 1) := by decide +kernel
theorem dX9_anew_23 : decode cX9_anew 23 = .ok (.getfield 19, 3) := by decide +kernel
theorem dX9_anew_26 : decode cX9_anew 26 = .ok (.invokevirtual 147, 3) := by decide +kernel
theorem dX9_anew_29 : decode cX9_anew 29 = .ok (.iload_n 1, 1) := by decide +kernel
theorem dX9_anew_30 : decode cX9_anew 30 = .ok (.ireturn, 1) := by decide +kernel
theorem dX9_run_0 : decode cX9_run 0 = .ok (.iload_n 1, 1) := by decide +kernel
theorem dX9_run_1 : decode cX9_run 1 = .ok (.iconst 1, 1) := by decide +kernel
theorem dX9_run_2 : decode cX9_run 2 = .ok (.bipush 96, 2) := by decide +kernel
theorem dX9_run_4 : decode cX9_run 4 = .ok (.invokestatic 99, 3) := by decide +kernel
theorem dX9_run_7 : decode cX9_run 7 = .ok (.ifCond .eq 5, 3) := by decide +kernel
theorem dX9_run_10 : decode cX9_run 10 = .ok (.iconst (-1), 1) := by decide +kernel
theorem dX9_run_11 : decode cX9_run 11 = .ok (.ireturn, 1) := by decide +kernel
theorem dX9_run_12 : decode cX9_run 12 = .ok (.aload_n 0, 1) := by decide +kernel
theorem dX9_run_13 : decode cX9_run 13 = .ok (.getfield 29, 3) := by decide +kernel
theorem dX9_run_16 : decode cX9_run 16 = .ok (.ifCond .ne 6, 3) := by decide +kernel
theorem dX9_run_19 : decode cX9_run 19 = .ok (.bipush (-2), 2) := by decide +kernel
theorem dX9_run_21 : decode cX9_run 21 = .ok (.ireturn, 1) := by decide +kernel
theorem dX9_run_22 : decode cX9_run 22 = .ok (.aload_n 0, 1) := by decide +kernel
theorem dX9_run_23 : decode cX9_run 23 = .ok (.getfield 53, 3) := by decide +kernel
theorem dX9_run_26 : decode cX9_run 26 = .ok (.getfield 144, 3) := by decide +kernel
theorem dX9_run_29 : decode cX9_run 29 = .ok (.iload_n 1, 1) := by decide +kernel
theorem dX9_run_30 : decode cX9_run 30 = .ok (.iadd, 1) := by decide +kernel
theorem dX9_run_31 : decode cX9_run 31 = .ok (.bipush 96, 2) := by decide +kernel
theorem dX9_run_33 : decode cX9_run 33 = .ok (.if_icmp .le 6, 3) := by decide +kernel
theorem dX9_run_36 : decode cX9_run 36 = .ok (.bipush (-3), 2) := by decide +kernel
theorem dX9_run_38 : decode cX9_run 38 = .ok (.ireturn, 1) := by decide +kernel
theorem dX9_run_39 : decode cX9_run 39 = .ok (.iconst 0, 1) := by decide +kernel
theorem dX9_run_40 : decode cX9_run 40 = .ok (.istore_n 2, 1) := by decide +kernel
theorem dX9_run_41 : decode cX9_run 41 = .ok (.iload_n 2, 1) := by decide +kernel
theorem dX9_run_42 : decode cX9_run 42 = .ok (.iload_n 1, 1) := by decide +kernel
theorem dX9_run_43 : decode cX9_run 43 = .ok (.if_icmp .ge 24, 3) := by decide +kernel
theorem dX9_run_46 : decode cX9_run 46 = .ok (.aload_n 0, 1) := by decide +kernel
theorem dX9_run_47 : decode cX9_run 47 = .ok (.getfield 53, 3) := by decide +kernel
theorem dX9_run_50 : decode cX9_run 50 = .ok (.aload_n 0, 1) := by decide +kernel
theorem dX9_run_51 : decode cX9_run 51 = .ok (.getfield 19, 3) := by decide +kernel
theorem dX9_run_54 : decode cX9_run 54 = .ok (.aload_n 0, 1) := by decide +kernel
theorem dX9_run_55 : decode cX9_run 55 = .ok (.getfield 39, 3) := by decide +kernel
theorem dX9_run_58 : decode cX9_run 58 = .ok (.invokevirtual 151, 3) := by decide +kernel
theorem dX9_run_61 : decode cX9_run 61 = .ok (.iinc 2 1, 3) := by decide +kernel
theorem dX9_run_64 : decode cX9_run 64 = .ok (.goto (-23), 3) := by decide +kernel
theorem dX9_run_67 : decode cX9_run 67 = .ok (.aload_n 0, 1) := by decide +kernel
theorem dX9_run_68 : decode cX9_run 68 = .ok (.getfield 53, 3) := by decide +kernel
theorem dX9_run_71 : decode cX9_run 71 = .ok (.getfield 144, 3) := by decide +kernel
theorem dX9_run_74 : decode cX9_run 74 = .ok (.ireturn, 1) := by decide +kernel
theorem dX9_has_0 : decode cX9_has 0 = .ok (.iload_n 1, 1) := by decide +kernel
theorem dX9_has_1 : decode cX9_has 1 = .ok (.invokestatic 155, 3) := by decide +kernel
theorem dX9_has_4 : decode cX9_has 4 = .ok (.ifCond .ne 12, 3) := by decide +kernel
theorem dX9_has_7 : decode cX9_has 7 = .ok (.iload_n 2, 1) := by decide +kernel
theorem dX9_has_8 : decode cX9_has 8 = .ok (.iconst 0, 1) := by decide +kernel
theorem dX9_has_9 : decode cX9_has 9 = .ok (.iconst 1, 1) := by decide +kernel
theorem dX9_has_10 : decode cX9_has 10 = .ok (.invokestatic 99, 3) := by decide +kernel
theorem dX9_has_13 : decode cX9_has 13 = .ok (.ifCond .eq 7, 3) := by decide +kernel
theorem dX9_has_16 : decode cX9_has 16 = .ok (.ldc2_w 158, 3) := by decide +kernel
theorem dX9_has_19 : decode cX9_has 19 = .ok (.lreturn, 1) := by decide +kernel
theorem dX9_has_20 : decode cX9_has 20 = .ok (.aload_n 0, 1) := by decide +kernel
theorem dX9_has_21 : decode cX9_has 21 = .ok (.iload_n 1, 1) := by decide +kernel
theorem dX9_has_22 : decode cX9_has 22 = .ok (.invokevirtual 160, 3) := by decide +kernel
theorem dX9_has_25 : decode cX9_has 25 = .ok (.ifCond .eq 7, 3) := by decide +kernel
theorem dX9_has_28 : decode cX9_has 28 = .ok (.ldc2_w 163, 3) := by decide +kernel
theorem dX9_has_31 : decode cX9_has 31 = .ok (.lreturn, 1) := by decide +kernel
theorem dX9_has_32 : decode cX9_has 32 = .ok (.iload_n 2, 1) := by decide +kernel
theorem dX9_has_33 : decode cX9_has 33 = .ok (.ifCond .ne 15, 3) := by decide +kernel
theorem dX9_has_36 : decode cX9_has 36 = .ok (.aload_n 0, 1) := by decide +kernel
theorem dX9_has_37 : decode cX9_has 37 = .ok (.getfield 53, 3) := by decide +kernel
theorem dX9_has_40 : decode cX9_has 40 = .ok (.getfield 165, 3) := by decide +kernel
theorem dX9_has_43 : decode cX9_has 43 = .ok (.iload_n 1, 1) := by decide +kernel
theorem dX9_has_44 : decode cX9_has 44 = .ok (.laload, 1) := by decide +kernel
theorem dX9_has_45 : decode cX9_has 45 = .ok (.goto 11, 3) := by decide +kernel
theorem dX9_has_48 : decode cX9_has 48 = .ok (.aload_n 0, 1) := by decide +kernel
theorem dX9_has_49 : decode cX9_has 49 = .ok (.getfield 53, 3) := by decide +kernel
theorem dX9_has_52 : decode cX9_has 52 = .ok (.iload_n 1, 1) := by decide +kernel
theorem dX9_has_53 : decode cX9_has 53 = .ok (.invokevirtual 169, 3) := by decide +kernel
theorem dX9_has_56 : decode cX9_has 56 = .ok (.lreturn, 1) := by decide +kernel
theorem dX9_flow_0 : decode cX9_flow 0 = .ok (.iload_n 1, 1) := by decide +kernel
theorem dX9_flow_1 : decode cX9_flow 1 = .ok (.invokestatic 127, 3) := by decide +kernel
theorem dX9_flow_4 : decode cX9_flow 4 = .ok (.ifCond .eq 7, 3) := by decide +kernel
theorem dX9_flow_7 : decode cX9_flow 7 = .ok (.ldc2_w 158, 3) := by decide +kernel
theorem dX9_flow_10 : decode cX9_flow 10 = .ok (.lreturn, 1) := by decide +kernel
theorem dX9_flow_11 : decode cX9_flow 11 = .ok (.aload_n 0, 1) := by decide +kernel
theorem dX9_flow_12 : decode cX9_flow 12 = .ok (.iload_n 1, 1) := by decide +kernel
theorem dX9_flow_13 : decode cX9_flow 13 = .ok (.invokevirtual 131, 3) := by decide +kernel
theorem dX9_flow_16 : decode cX9_flow 16 = .ok (.ifCond .ne 13, 3) := by decide +kernel
theorem dX9_flow_19 : decode cX9_flow 19 = .ok (.aload_n 0, 1) := by decide +kernel
theorem dX9_flow_20 : decode cX9_flow 20 = .ok (.getfield 53, 3) := by decide +kernel
theorem dX9_flow_23 : decode cX9_flow 23 = .ok (.getfield 144, 3) := by decide +kernel
theorem dX9_flow_26 : decode cX9_flow 26 = .ok (.ifCond .ne 9, 3) := by decide +kernel
theorem dX9_flow_29 : decode cX9_flow 29 = .ok (.ldc2_w 163, 3) := by decide +kernel
theorem dX9_flow_32 : decode cX9_flow 32 = .ok (.goto 12, 3) := by decide +kernel
theorem dX9_flow_35 : decode cX9_flow 35 = .ok (.aload_n 0, 1) := by decide +kernel
theorem dX9_flow_36 : decode cX9_flow 36 = .ok (.getfield 53, 3) := by decide +kernel
theorem dX9_flow_39 : decode cX9_flow 39 = .ok (.getfield 173, 3) := by decide +kernel
theorem dX9_flow_42 : decode cX9_flow 42 = .ok (.iload_n 1, 1) := by decide +kernel
theorem dX9_flow_43 : decode cX9_flow 43 = .ok (.laload, 1) := by decide +kernel
theorem dX9_flow_44 : decode cX9_flow 44 = .ok (.lreturn, 1) := by decide +kernel
theorem dX9_gate_0 : decode cX9_gate 0 = .ok (.iload_n 1, 1) := by decide +kernel
theorem dX9_gate_1 : decode cX9_gate 1 = .ok (.invokestatic 176, 3) := by decide +kernel
theorem dX9_gate_4 : decode cX9_gate 4 = .ok (.ifCond .ne 13, 3) := by decide +kernel
theorem dX9_gate_7 : decode cX9_gate 7 = .ok (.iload_n 2, 1) := by decide +kernel
theorem dX9_gate_8 : decode cX9_gate 8 = .ok (.iconst 0, 1) := by decide +kernel
theorem dX9_gate_9 : decode cX9_gate 9 = .ok (.bipush 10, 2) := by decide +kernel
theorem dX9_gate_11 : decode cX9_gate 11 = .ok (.invokestatic 99, 3) := by decide +kernel
theorem dX9_gate_14 : decode cX9_gate 14 = .ok (.ifCond .eq 5, 3) := by decide +kernel
theorem dX9_gate_17 : decode cX9_gate 17 = .ok (.iconst (-1), 1) := by decide +kernel
theorem dX9_gate_18 : decode cX9_gate 18 = .ok (.ireturn, 1) := by decide +kernel
theorem dX9_gate_19 : decode cX9_gate 19 = .ok (.aload_n 0, 1) := by decide +kernel
theorem dX9_gate_20 : decode cX9_gate 20 = .ok (.iload_n 1, 1) := by decide +kernel
theorem dX9_gate_21 : decode cX9_gate 21 = .ok (.invokevirtual 179, 3) := by decide +kernel
theorem dX9_gate_24 : decode cX9_gate 24 = .ok (.ifCond .eq 6, 3) := by decide +kernel
theorem dX9_gate_27 : decode cX9_gate 27 = .ok (.bipush (-2), 2) := by decide +kernel
theorem dX9_gate_29 : decode cX9_gate 29 = .ok (.ireturn, 1) := by decide +kernel
theorem dX9_gate_30 : decode cX9_gate 30 = .ok (.aload_n 0, 1) := by decide +kernel
theorem dX9_gate_31 : decode cX9_gate 31 = .ok (.getfield 53, 3) := by decide +kernel
theorem dX9_gate_34 : decode cX9_gate 34 = .ok (.getfield 182, 3) := by decide +kernel
theorem dX9_gate_37 : decode cX9_gate 37 = .ok (.iload_n 1, 1) := by decide +kernel
theorem dX9_gate_38 : decode cX9_gate 38 = .ok (.iaload, 1) := by decide +kernel
theorem dX9_gate_39 : decode cX9_gate 39 = .ok (.istore_n 3, 1) := by decide +kernel
theorem dX9_gate_40 : decode cX9_gate 40 = .ok (.aload_n 0, 1) := by decide +kernel
theorem dX9_gate_41 : decode cX9_gate 41 = .ok (.getfield 53, 3) := by decide +kernel
theorem dX9_gate_44 : decode cX9_gate 44 = .ok (.getfield 182, 3) := by decide +kernel
theorem dX9_gate_47 : decode cX9_gate 47 = .ok (.iload_n 1, 1) := by decide +kernel
theorem dX9_gate_48 : decode cX9_gate 48 = .ok (.iload_n 2, 1) := by decide +kernel
theorem dX9_gate_49 : decode cX9_gate 49 = .ok (.iastore, 1) := by decide +kernel
theorem dX9_gate_50 : decode cX9_gate 50 = .ok (.iload_n 3, 1) := by decide +kernel
theorem dX9_gate_51 : decode cX9_gate 51 = .ok (.ireturn, 1) := by decide +kernel
theorem dX9_book_0 : decode cX9_book 0 = .ok (.iload_n 1, 1) := by decide +kernel
theorem dX9_book_1 : decode cX9_book 1 = .ok (.iconst 0, 1) := by decide +kernel
theorem dX9_book_2 : decode cX9_book 2 = .ok (.iconst 5, 1) := by decide +kernel
theorem dX9_book_3 : decode cX9_book 3 = .ok (.invokestatic 99, 3) := by decide +kernel
theorem dX9_book_6 : decode cX9_book 6 = .ok (.ifCond .eq 7, 3) := by decide +kernel
theorem dX9_book_9 : decode cX9_book 9 = .ok (.ldc2_w 158, 3) := by decide +kernel
theorem dX9_book_12 : decode cX9_book 12 = .ok (.lreturn, 1) := by decide +kernel
theorem dX9_book_13 : decode cX9_book 13 = .ok (.aload_n 0, 1) := by decide +kernel
theorem dX9_book_14 : decode cX9_book 14 = .ok (.getfield 29, 3) := by decide +kernel
theorem dX9_book_17 : decode cX9_book 17 = .ok (.ifCond .ne 7, 3) := by decide +kernel
theorem dX9_book_20 : decode cX9_book 20 = .ok (.ldc2_w 163, 3) := by decide +kernel
theorem dX9_book_23 : decode cX9_book 23 = .ok (.lreturn, 1) := by decide +kernel
theorem dX9_book_24 : decode cX9_book 24 = .ok (.iload_n 1, 1) := by decide +kernel
theorem dX9_book_25 : decode cX9_book 25 = .ok (.tableswitch 75 0 4 #[35, 43, 51, 59, 67], 35) := by decide +kernel
theorem dX9_book_60 : decode cX9_book 60 = .ok (.aload_n 0, 1) := by decide +kernel
theorem dX9_book_61 : decode cX9_book 61 = .ok (.getfield 53, 3) := by decide +kernel
theorem dX9_book_64 : decode cX9_book 64 = .ok (.getfield 185, 3) := by decide +kernel
theorem dX9_book_67 : decode cX9_book 67 = .ok (.lreturn, 1) := by decide +kernel
theorem dX9_book_68 : decode cX9_book 68 = .ok (.aload_n 0, 1) := by decide +kernel
theorem dX9_book_69 : decode cX9_book 69 = .ok (.getfield 53, 3) := by decide +kernel
theorem dX9_book_72 : decode cX9_book 72 = .ok (.getfield 189, 3) := by decide +kernel
theorem dX9_book_75 : decode cX9_book 75 = .ok (.lreturn, 1) := by decide +kernel
theorem dX9_book_76 : decode cX9_book 76 = .ok (.aload_n 0, 1) := by decide +kernel
theorem dX9_book_77 : decode cX9_book 77 = .ok (.getfield 53, 3) := by decide +kernel
theorem dX9_book_80 : decode cX9_book 80 = .ok (.getfield 192, 3) := by decide +kernel
theorem dX9_book_83 : decode cX9_book 83 = .ok (.lreturn, 1) := by decide +kernel
theorem dX9_book_84 : decode cX9_book 84 = .ok (.aload_n 0, 1) := by decide +kernel
theorem dX9_book_85 : decode cX9_book 85 = .ok (.getfield 53, 3) := by decide +kernel
theorem dX9_book_88 : decode cX9_book 88 = .ok (.invokevirtual 195, 3) := by decide +kernel
theorem dX9_book_91 : decode cX9_book 91 = .ok (.lreturn, 1) := by decide +kernel
theorem dX9_book_92 : decode cX9_book 92 = .ok (.aload_n 0, 1) := by decide +kernel
theorem dX9_book_93 : decode cX9_book 93 = .ok (.getfield 53, 3) := by decide +kernel
theorem dX9_book_96 : decode cX9_book 96 = .ok (.invokevirtual 199, 3) := by decide +kernel
theorem dX9_book_99 : decode cX9_book 99 = .ok (.lreturn, 1) := by decide +kernel
theorem dX9_book_100 : decode cX9_book 100 = .ok (.aload_n 0, 1) := by decide +kernel
theorem dX9_book_101 : decode cX9_book 101 = .ok (.getfield 19, 3) := by decide +kernel
theorem dX9_book_104 : decode cX9_book 104 = .ok (.invokevirtual 202, 3) := by decide +kernel
theorem dX9_book_107 : decode cX9_book 107 = .ok (.lreturn, 1) := by decide +kernel
theorem dX9_gauge_0 : decode cX9_gauge 0 = .ok (.iload_n 1, 1) := by decide +kernel
theorem dX9_gauge_1 : decode cX9_gauge 1 = .ok (.invokestatic 205, 3) := by decide +kernel
theorem dX9_gauge_4 : decode cX9_gauge 4 = .ok (.ifCond .ne 12, 3) := by decide +kernel
theorem dX9_gauge_7 : decode cX9_gauge 7 = .ok (.iload_n 2, 1) := by decide +kernel
theorem dX9_gauge_8 : decode cX9_gauge 8 = .ok (.iconst 0, 1) := by decide +kernel
theorem dX9_gauge_9 : decode cX9_gauge 9 = .ok (.iconst 1, 1) := by decide +kernel
theorem dX9_gauge_10 : decode cX9_gauge 10 = .ok (.invokestatic 99, 3) := by decide +kernel
theorem dX9_gauge_13 : decode cX9_gauge 13 = .ok (.ifCond .eq 5, 3) := by decide +kernel
theorem dX9_gauge_16 : decode cX9_gauge 16 = .ok (.iconst (-1), 1) := by decide +kernel
theorem dX9_gauge_17 : decode cX9_gauge 17 = .ok (.ireturn, 1) := by decide +kernel
theorem dX9_gauge_18 : decode cX9_gauge 18 = .ok (.iload_n 2, 1) := by decide +kernel
theorem dX9_gauge_19 : decode cX9_gauge 19 = .ok (.ifCond .ne 13, 3) := by decide +kernel
theorem dX9_gauge_22 : decode cX9_gauge 22 = .ok (.iload_n 3, 1) := by decide +kernel
theorem dX9_gauge_23 : decode cX9_gauge 23 = .ok (.invokestatic 127, 3) := by decide +kernel
theorem dX9_gauge_26 : decode cX9_gauge 26 = .ok (.ifCond .eq 15, 3) := by decide +kernel
theorem dX9_gauge_29 : decode cX9_gauge 29 = .ok (.goto 10, 3) := by decide +kernel
theorem dX9_gauge_32 : decode cX9_gauge 32 = .ok (.iload_n 3, 1) := by decide +kernel
theorem dX9_gauge_33 : decode cX9_gauge 33 = .ok (.invokestatic 155, 3) := by decide +kernel
theorem dX9_gauge_36 : decode cX9_gauge 36 = .ok (.ifCond .eq 5, 3) := by decide +kernel
theorem dX9_gauge_39 : decode cX9_gauge 39 = .ok (.iconst (-1), 1) := by decide +kernel
theorem dX9_gauge_40 : decode cX9_gauge 40 = .ok (.ireturn, 1) := by decide +kernel
theorem dX9_gauge_41 : decode cX9_gauge 41 = .ok (.iload_n 2, 1) := by decide +kernel
theorem dX9_gauge_42 : decode cX9_gauge 42 = .ok (.ifCond .ne 14, 3) := by decide +kernel
theorem dX9_gauge_45 : decode cX9_gauge 45 = .ok (.aload_n 0, 1) := by decide +kernel
theorem dX9_gauge_46 : decode cX9_gauge 46 = .ok (.iload_n 3, 1) := by decide +kernel
theorem dX9_gauge_47 : decode cX9_gauge 47 = .ok (.invokevirtual 131, 3) := by decide +kernel
theorem dX9_gauge_50 : decode cX9_gauge 50 = .ok (.ifCond .eq 17, 3) := by decide +kernel
theorem dX9_gauge_53 : decode cX9_gauge 53 = .ok (.goto 11, 3) := by decide +kernel
theorem dX9_gauge_56 : decode cX9_gauge 56 = .ok (.aload_n 0, 1) := by decide +kernel
theorem dX9_gauge_57 : decode cX9_gauge 57 = .ok (.iload_n 3, 1) := by decide +kernel
theorem dX9_gauge_58 : decode cX9_gauge 58 = .ok (.invokevirtual 160, 3) := by decide +kernel
theorem dX9_gauge_61 : decode cX9_gauge 61 = .ok (.ifCond .eq 6, 3) := by decide +kernel
theorem dX9_gauge_64 : decode cX9_gauge 64 = .ok (.bipush (-2), 2) := by decide +kernel
theorem dX9_gauge_66 : decode cX9_gauge 66 = .ok (.ireturn, 1) := by decide +kernel
theorem dX9_gauge_67 : decode cX9_gauge 67 = .ok (.aload_n 0, 1) := by decide +kernel
theorem dX9_gauge_68 : decode cX9_gauge 68 = .ok (.getfield 74, 3) := by decide +kernel
theorem dX9_gauge_71 : decode cX9_gauge 71 = .ok (.iload_n 1, 1) := by decide +kernel
theorem dX9_gauge_72 : decode cX9_gauge 72 = .ok (.iload_n 2, 1) := by decide +kernel
theorem dX9_gauge_73 : decode cX9_gauge 73 = .ok (.iload_n 3, 1) := by decide +kernel
theorem dX9_gauge_74 : decode cX9_gauge 74 = .ok (.invokevirtual 208, 3) := by decide +kernel
theorem dX9_gauge_77 : decode cX9_gauge 77 = .ok (.iconst 0, 1) := by decide +kernel
theorem dX9_gauge_78 : decode cX9_gauge 78 = .ok (.ireturn, 1) := by decide +kernel
theorem dX9_reads_0 : decode cX9_reads 0 = .ok (.iload_n 1, 1) := by decide +kernel
theorem dX9_reads_1 : decode cX9_reads 1 = .ok (.invokestatic 205, 3) := by decide +kernel
theorem dX9_reads_4 : decode cX9_reads 4 = .ok (.ifCond .eq 7, 3) := by decide +kernel
theorem dX9_reads_7 : decode cX9_reads 7 = .ok (.ldc2_w 158, 3) := by decide +kernel
theorem dX9_reads_10 : decode cX9_reads 10 = .ok (.lreturn, 1) := by decide +kernel
theorem dX9_reads_11 : decode cX9_reads 11 = .ok (.aload_n 0, 1) := by decide +kernel
theorem dX9_reads_12 : decode cX9_reads 12 = .ok (.iload_n 1, 1) := by decide +kernel
theorem dX9_reads_13 : decode cX9_reads 13 = .ok (.invokevirtual 212, 3) := by decide +kernel
theorem dX9_reads_16 : decode cX9_reads 16 = .ok (.ifCond .ne 13, 3) := by decide +kernel
theorem dX9_reads_19 : decode cX9_reads 19 = .ok (.aload_n 0, 1) := by decide +kernel
theorem dX9_reads_20 : decode cX9_reads 20 = .ok (.getfield 53, 3) := by decide +kernel
theorem dX9_reads_23 : decode cX9_reads 23 = .ok (.getfield 144, 3) := by decide +kernel
theorem dX9_reads_26 : decode cX9_reads 26 = .ok (.ifCond .ne 9, 3) := by decide +kernel
theorem dX9_reads_29 : decode cX9_reads 29 = .ok (.ldc2_w 163, 3) := by decide +kernel
theorem dX9_reads_32 : decode cX9_reads 32 = .ok (.goto 15, 3) := by decide +kernel
theorem dX9_reads_35 : decode cX9_reads 35 = .ok (.aload_n 0, 1) := by decide +kernel
theorem dX9_reads_36 : decode cX9_reads 36 = .ok (.getfield 74, 3) := by decide +kernel
theorem dX9_reads_39 : decode cX9_reads 39 = .ok (.aload_n 0, 1) := by decide +kernel
theorem dX9_reads_40 : decode cX9_reads 40 = .ok (.getfield 53, 3) := by decide +kernel
theorem dX9_reads_43 : decode cX9_reads 43 = .ok (.iload_n 1, 1) := by decide +kernel
theorem dX9_reads_44 : decode cX9_reads 44 = .ok (.invokevirtual 215, 3) := by decide +kernel
theorem dX9_reads_47 : decode cX9_reads 47 = .ok (.lreturn, 1) := by decide +kernel
theorem dX9_see_0 : decode cX9_see 0 = .ok (.iload_n 1, 1) := by decide +kernel
theorem dX9_see_1 : decode cX9_see 1 = .ok (.invokestatic 205, 3) := by decide +kernel
theorem dX9_see_4 : decode cX9_see 4 = .ok (.ifCond .ne 23, 3) := by decide +kernel
theorem dX9_see_7 : decode cX9_see 7 = .ok (.iload_n 2, 1) := by decide +kernel
theorem dX9_see_8 : decode cX9_see 8 = .ok (.iconst 0, 1) := by decide +kernel
theorem dX9_see_9 : decode cX9_see 9 = .ok (.bipush 95, 2) := by decide +kernel
theorem dX9_see_11 : decode cX9_see 11 = .ok (.invokestatic 99, 3) := by decide +kernel
theorem dX9_see_14 : decode cX9_see 14 = .ok (.ifCond .ne 13, 3) := by decide +kernel
theorem dX9_see_17 : decode cX9_see 17 = .ok (.iload_n 3, 1) := by decide +kernel
theorem dX9_see_18 : decode cX9_see 18 = .ok (.iconst (-1), 1) := by decide +kernel
theorem dX9_see_19 : decode cX9_see 19 = .ok (.ldc 219, 2) := by decide +kernel
theorem dX9_see_21 : decode cX9_see 21 = .ok (.invokestatic 99, 3) := by decide +kernel
theorem dX9_see_24 : decode cX9_see 24 = .ok (.ifCond .eq 6, 3) := by decide +kernel
theorem dX9_see_27 : decode cX9_see 27 = .ok (.bipush (-100), 2) := by decide +kernel
theorem dX9_see_29 : decode cX9_see 29 = .ok (.ireturn, 1) := by decide +kernel
theorem dX9_see_30 : decode cX9_see 30 = .ok (.aload_n 0, 1) := by decide +kernel
theorem dX9_see_31 : decode cX9_see 31 = .ok (.iload_n 1, 1) := by decide +kernel
theorem dX9_see_32 : decode cX9_see 32 = .ok (.invokevirtual 212, 3) := by decide +kernel
theorem dX9_see_35 : decode cX9_see 35 = .ok (.ifCond .eq 8, 3) := by decide +kernel
theorem dX9_see_38 : decode cX9_see 38 = .ok (.bipush (-102), 2) := by decide +kernel
theorem dX9_see_40 : decode cX9_see 40 = .ok (.goto 13, 3) := by decide +kernel
theorem dX9_see_43 : decode cX9_see 43 = .ok (.aload_n 0, 1) := by decide +kernel
theorem dX9_see_44 : decode cX9_see 44 = .ok (.getfield 74, 3) := by decide +kernel
theorem dX9_see_47 : decode cX9_see 47 = .ok (.iload_n 1, 1) := by decide +kernel
theorem dX9_see_48 : decode cX9_see 48 = .ok (.iload_n 2, 1) := by decide +kernel
theorem dX9_see_49 : decode cX9_see 49 = .ok (.iload_n 3, 1) := by decide +kernel
theorem dX9_see_50 : decode cX9_see 50 = .ok (.invokevirtual 220, 3) := by decide +kernel
theorem dX9_see_53 : decode cX9_see 53 = .ok (.ireturn, 1) := by decide +kernel
theorem dX9_knob_0 : decode cX9_knob 0 = .ok (.iload_n 1, 1) := by decide +kernel
theorem dX9_knob_1 : decode cX9_knob 1 = .ok (.invokestatic 228, 3) := by decide +kernel
theorem dX9_knob_4 : decode cX9_knob 4 = .ok (.ifCond .ne 19, 3) := by decide +kernel
theorem dX9_knob_7 : decode cX9_knob 7 = .ok (.iload_n 2, 1) := by decide +kernel
theorem dX9_knob_8 : decode cX9_knob 8 = .ok (.invokestatic 127, 3) := by decide +kernel
theorem dX9_knob_11 : decode cX9_knob 11 = .ok (.ifCond .ne 12, 3) := by decide +kernel
theorem dX9_knob_14 : decode cX9_knob 14 = .ok (.iload_n 3, 1) := by decide +kernel
theorem dX9_knob_15 : decode cX9_knob 15 = .ok (.iconst 0, 1) := by decide +kernel
theorem dX9_knob_16 : decode cX9_knob 16 = .ok (.iconst 2, 1) := by decide +kernel
theorem dX9_knob_17 : decode cX9_knob 17 = .ok (.invokestatic 99, 3) := by decide +kernel
theorem dX9_knob_20 : decode cX9_knob 20 = .ok (.ifCond .eq 5, 3) := by decide +kernel
theorem dX9_knob_23 : decode cX9_knob 23 = .ok (.iconst (-1), 1) := by decide +kernel
theorem dX9_knob_24 : decode cX9_knob 24 = .ok (.ireturn, 1) := by decide +kernel
theorem dX9_knob_25 : decode cX9_knob 25 = .ok (.iload 4, 2) := by decide +kernel
theorem dX9_knob_27 : decode cX9_knob 27 = .ok (.iconst 0, 1) := by decide +kernel
theorem dX9_knob_28 : decode cX9_knob 28 = .ok (.ldc 231, 2) := by decide +kernel
theorem dX9_knob_30 : decode cX9_knob 30 = .ok (.invokestatic 99, 3) := by decide +kernel
theorem dX9_knob_33 : decode cX9_knob 33 = .ok (.ifCond .ne 25, 3) := by decide +kernel
theorem dX9_knob_36 : decode cX9_knob 36 = .ok (.iload 5, 2) := by decide +kernel
theorem dX9_knob_38 : decode cX9_knob 38 = .ok (.iconst 1, 1) := by decide +kernel
theorem dX9_knob_39 : decode cX9_knob 39 = .ok (.ldc 231, 2) := by decide +kernel
theorem dX9_knob_41 : decode cX9_knob 41 = .ok (.invokestatic 99, 3) := by decide +kernel
theorem dX9_knob_44 : decode cX9_knob 44 = .ok (.ifCond .ne 14, 3) := by decide +kernel
theorem dX9_knob_47 : decode cX9_knob 47 = .ok (.iload 6, 2) := by decide +kernel
theorem dX9_knob_49 : decode cX9_knob 49 = .ok (.iconst 0, 1) := by decide +kernel
theorem dX9_knob_50 : decode cX9_knob 50 = .ok (.bipush 16, 2) := by decide +kernel
theorem dX9_knob_52 : decode cX9_knob 52 = .ok (.invokestatic 99, 3) := by decide +kernel
theorem dX9_knob_55 : decode cX9_knob 55 = .ok (.ifCond .eq 5, 3) := by decide +kernel
theorem dX9_knob_58 : decode cX9_knob 58 = .ok (.iconst (-1), 1) := by decide +kernel
theorem dX9_knob_59 : decode cX9_knob 59 = .ok (.ireturn, 1) := by decide +kernel
theorem dX9_knob_60 : decode cX9_knob 60 = .ok (.aload_n 0, 1) := by decide +kernel
theorem dX9_knob_61 : decode cX9_knob 61 = .ok (.iload_n 2, 1) := by decide +kernel
theorem dX9_knob_62 : decode cX9_knob 62 = .ok (.invokevirtual 131, 3) := by decide +kernel
theorem dX9_knob_65 : decode cX9_knob 65 = .ok (.ifCond .ne 15, 3) := by decide +kernel
theorem dX9_knob_68 : decode cX9_knob 68 = .ok (.aload_n 0, 1) := by decide +kernel
theorem dX9_knob_69 : decode cX9_knob 69 = .ok (.getfield 19, 3) := by decide +kernel
theorem dX9_knob_72 : decode cX9_knob 72 = .ok (.iload_n 2, 1) := by decide +kernel
theorem dX9_knob_73 : decode cX9_knob 73 = .ok (.iload_n 3, 1) := by decide +kernel
theorem dX9_knob_74 : decode cX9_knob 74 = .ok (.invokevirtual 232, 3) := by decide +kernel
theorem dX9_knob_77 : decode cX9_knob 77 = .ok (.ifCond .ne 6, 3) := by decide +kernel
theorem dX9_knob_80 : decode cX9_knob 80 = .ok (.bipush (-2), 2) := by decide +kernel
theorem dX9_knob_82 : decode cX9_knob 82 = .ok (.ireturn, 1) := by decide +kernel
theorem dX9_knob_83 : decode cX9_knob 83 = .ok (.aload_n 0, 1) := by decide +kernel
theorem dX9_knob_84 : decode cX9_knob 84 = .ok (.getfield 81, 3) := by decide +kernel
theorem dX9_knob_87 : decode cX9_knob 87 = .ok (.iload_n 1, 1) := by decide +kernel
theorem dX9_knob_88 : decode cX9_knob 88 = .ok (.iload_n 2, 1) := by decide +kernel
theorem dX9_knob_89 : decode cX9_knob 89 = .ok (.iload_n 3, 1) := by decide +kernel
theorem dX9_knob_90 : decode cX9_knob 90 = .ok (.iload 4, 2) := by decide +kernel
theorem dX9_knob_92 : decode cX9_knob 92 = .ok (.iload 5, 2) := by decide +kernel
theorem dX9_knob_94 : decode cX9_knob 94 = .ok (.iload 6, 2) := by decide +kernel
theorem dX9_knob_96 : decode cX9_knob 96 = .ok (.invokevirtual 236, 3) := by decide +kernel
theorem dX9_knob_99 : decode cX9_knob 99 = .ok (.iconst 0, 1) := by decide +kernel
theorem dX9_knob_100 : decode cX9_knob 100 = .ok (.ireturn, 1) := by decide +kernel
theorem dX9_fits_0 : decode cX9_fits 0 = .ok (.aload_n 0, 1) := by decide +kernel
theorem dX9_fits_1 : decode cX9_fits 1 = .ok (.getfield 29, 3) := by decide +kernel
theorem dX9_fits_4 : decode cX9_fits 4 = .ok (.ifCond .ne 6, 3) := by decide +kernel
theorem dX9_fits_7 : decode cX9_fits 7 = .ok (.bipush (-2), 2) := by decide +kernel
theorem dX9_fits_9 : decode cX9_fits 9 = .ok (.ireturn, 1) := by decide +kernel
theorem dX9_fits_10 : decode cX9_fits 10 = .ok (.iconst 0, 1) := by decide +kernel
theorem dX9_fits_11 : decode cX9_fits 11 = .ok (.istore_n 1, 1) := by decide +kernel
theorem dX9_fits_12 : decode cX9_fits 12 = .ok (.aload_n 0, 1) := by decide +kernel
theorem dX9_fits_13 : decode cX9_fits 13 = .ok (.getfield 81, 3) := by decide +kernel
theorem dX9_fits_16 : decode cX9_fits 16 = .ok (.invokevirtual 239, 3) := by decide +kernel
theorem dX9_fits_19 : decode cX9_fits 19 = .ok (.istore_n 2, 1) := by decide +kernel
theorem dX9_fits_20 : decode cX9_fits 20 = .ok (.iconst 0, 1) := by decide +kernel
theorem dX9_fits_21 : decode cX9_fits 21 = .ok (.istore_n 3, 1) := by decide +kernel
theorem dX9_fits_22 : decode cX9_fits 22 = .ok (.iload_n 3, 1) := by decide +kernel
theorem dX9_fits_23 : decode cX9_fits 23 = .ok (.iload_n 2, 1) := by decide +kernel
theorem dX9_fits_24 : decode cX9_fits 24 = .ok (.if_icmp .ge 20, 3) := by decide +kernel
theorem dX9_fits_27 : decode cX9_fits 27 = .ok (.aload_n 0, 1) := by decide +kernel
theorem dX9_fits_28 : decode cX9_fits 28 = .ok (.iload_n 3, 1) := by decide +kernel
theorem dX9_fits_29 : decode cX9_fits 29 = .ok (.invokevirtual 243, 3) := by decide +kernel
theorem dX9_fits_32 : decode cX9_fits 32 = .ok (.ifCond .eq 6, 3) := by decide +kernel
theorem dX9_fits_35 : decode cX9_fits 35 = .ok (.iinc 1 1, 3) := by decide +kernel
theorem dX9_fits_38 : decode cX9_fits 38 = .ok (.iinc 3 1, 3) := by decide +kernel
theorem dX9_fits_41 : decode cX9_fits 41 = .ok (.goto (-19), 3) := by decide +kernel
theorem dX9_fits_44 : decode cX9_fits 44 = .ok (.iload_n 1, 1) := by decide +kernel
theorem dX9_fits_45 : decode cX9_fits 45 = .ok (.ireturn, 1) := by decide +kernel
theorem dX9_fit_0 : decode cX9_fit 0 = .ok (.iload_n 1, 1) := by decide +kernel
theorem dX9_fit_1 : decode cX9_fit 1 = .ok (.ifCond .lt 10, 3) := by decide +kernel
theorem dX9_fit_4 : decode cX9_fit 4 = .ok (.iload_n 2, 1) := by decide +kernel
theorem dX9_fit_5 : decode cX9_fit 5 = .ok (.invokestatic 228, 3) := by decide +kernel
theorem dX9_fit_8 : decode cX9_fit 8 = .ok (.ifCond .eq 5, 3) := by decide +kernel
theorem dX9_fit_11 : decode cX9_fit 11 = .ok (.iconst (-1), 1) := by decide +kernel
theorem dX9_fit_12 : decode cX9_fit 12 = .ok (.ireturn, 1) := by decide +kernel
theorem dX9_fit_13 : decode cX9_fit 13 = .ok (.aload_n 0, 1) := by decide +kernel
theorem dX9_fit_14 : decode cX9_fit 14 = .ok (.getfield 29, 3) := by decide +kernel
theorem dX9_fit_17 : decode cX9_fit 17 = .ok (.ifCond .ne 6, 3) := by decide +kernel
theorem dX9_fit_20 : decode cX9_fit 20 = .ok (.bipush (-2), 2) := by decide +kernel
theorem dX9_fit_22 : decode cX9_fit 22 = .ok (.ireturn, 1) := by decide +kernel
theorem dX9_fit_23 : decode cX9_fit 23 = .ok (.aload_n 0, 1) := by decide +kernel
theorem dX9_fit_24 : decode cX9_fit 24 = .ok (.getfield 81, 3) := by decide +kernel
theorem dX9_fit_27 : decode cX9_fit 27 = .ok (.iload_n 2, 1) := by decide +kernel
theorem dX9_fit_28 : decode cX9_fit 28 = .ok (.invokevirtual 246, 3) := by decide +kernel
theorem dX9_fit_31 : decode cX9_fit 31 = .ok (.ifCond .eq 11, 3) := by decide +kernel
theorem dX9_fit_34 : decode cX9_fit 34 = .ok (.aload_n 0, 1) := by decide +kernel
theorem dX9_fit_35 : decode cX9_fit 35 = .ok (.iload_n 1, 1) := by decide +kernel
theorem dX9_fit_36 : decode cX9_fit 36 = .ok (.invokevirtual 249, 3) := by decide +kernel
theorem dX9_fit_39 : decode cX9_fit 39 = .ok (.goto 5, 3) := by decide +kernel
theorem dX9_fit_42 : decode cX9_fit 42 = .ok (.bipush (-4), 2) := by decide +kernel
theorem dX9_fit_44 : decode cX9_fit 44 = .ok (.istore_n 3, 1) := by decide +kernel
theorem dX9_fit_45 : decode cX9_fit 45 = .ok (.iload_n 3, 1) := by decide +kernel
theorem dX9_fit_46 : decode cX9_fit 46 = .ok (.bipush (-4), 2) := by decide +kernel
theorem dX9_fit_48 : decode cX9_fit 48 = .ok (.if_icmp .ne 8, 3) := by decide +kernel
theorem dX9_fit_51 : decode cX9_fit 51 = .ok (.bipush (-4), 2) := by decide +kernel
theorem dX9_fit_53 : decode cX9_fit 53 = .ok (.goto 12, 3) := by decide +kernel
theorem dX9_fit_56 : decode cX9_fit 56 = .ok (.aload_n 0, 1) := by decide +kernel
theorem dX9_fit_57 : decode cX9_fit 57 = .ok (.getfield 81, 3) := by decide +kernel
theorem dX9_fit_60 : decode cX9_fit 60 = .ok (.iload_n 2, 1) := by decide +kernel
theorem dX9_fit_61 : decode cX9_fit 61 = .ok (.iload_n 3, 1) := by decide +kernel
theorem dX9_fit_62 : decode cX9_fit 62 = .ok (.invokevirtual 253, 3) := by decide +kernel
theorem dX9_fit_65 : decode cX9_fit 65 = .ok (.ireturn, 1) := by decide +kernel
theorem dX9_take_0 : decode cX9_take 0 = .ok (.iload_n 1, 1) := by decide +kernel
theorem dX9_take_1 : decode cX9_take 1 = .ok (.ifCond .ge 5, 3) := by decide +kernel
theorem dX9_take_4 : decode cX9_take 4 = .ok (.iconst (-1), 1) := by decide +kernel
theorem dX9_take_5 : decode cX9_take 5 = .ok (.ireturn, 1) := by decide +kernel
theorem dX9_take_6 : decode cX9_take 6 = .ok (.aload_n 0, 1) := by decide +kernel
theorem dX9_take_7 : decode cX9_take 7 = .ok (.getfield 29, 3) := by decide +kernel
theorem dX9_take_10 : decode cX9_take 10 = .ok (.ifCond .ne 6, 3) := by decide +kernel
theorem dX9_take_13 : decode cX9_take 13 = .ok (.bipush (-2), 2) := by decide +kernel
theorem dX9_take_15 : decode cX9_take 15 = .ok (.ireturn, 1) := by decide +kernel
theorem dX9_take_16 : decode cX9_take 16 = .ok (.aload_n 0, 1) := by decide +kernel
theorem dX9_take_17 : decode cX9_take 17 = .ok (.iload_n 1, 1) := by decide +kernel
theorem dX9_take_18 : decode cX9_take 18 = .ok (.invokevirtual 249, 3) := by decide +kernel
theorem dX9_take_21 : decode cX9_take 21 = .ok (.bipush (-4), 2) := by decide +kernel
theorem dX9_take_23 : decode cX9_take 23 = .ok (.if_icmp .ne 6, 3) := by decide +kernel
theorem dX9_take_26 : decode cX9_take 26 = .ok (.bipush (-4), 2) := by decide +kernel
theorem dX9_take_28 : decode cX9_take 28 = .ok (.ireturn, 1) := by decide +kernel
theorem dX9_take_29 : decode cX9_take 29 = .ok (.aload_n 0, 1) := by decide +kernel
theorem dX9_take_30 : decode cX9_take 30 = .ok (.invokevirtual 121, 3) := by decide +kernel
theorem dX9_take_33 : decode cX9_take 33 = .ok (.iconst 0, 1) := by decide +kernel
theorem dX9_take_34 : decode cX9_take 34 = .ok (.ireturn, 1) := by decide +kernel
theorem dX9_chance_0 : decode cX9_chance 0 = .ok (.iload_n 1, 1) := by decide +kernel
theorem dX9_chance_1 : decode cX9_chance 1 = .ok (.invokestatic 205, 3) := by decide +kernel
theorem dX9_chance_4 : decode cX9_chance 4 = .ok (.ifCond .ne 13, 3) := by decide +kernel
theorem dX9_chance_7 : decode cX9_chance 7 = .ok (.iload_n 2, 1) := by decide +kernel
theorem dX9_chance_8 : decode cX9_chance 8 = .ok (.iconst 1, 1) := by decide +kernel
theorem dX9_chance_9 : decode cX9_chance 9 = .ok (.bipush 24, 2) := by decide +kernel
theorem dX9_chance_11 : decode cX9_chance 11 = .ok (.invokestatic 99, 3) := by decide +kernel
theorem dX9_chance_14 : decode cX9_chance 14 = .ok (.ifCond .eq 5, 3) := by decide +kernel
theorem dX9_chance_17 : decode cX9_chance 17 = .ok (.iconst (-1), 1) := by decide +kernel
theorem dX9_chance_18 : decode cX9_chance 18 = .ok (.ireturn, 1) := by decide +kernel
theorem dX9_chance_19 : decode cX9_chance 19 = .ok (.aload_n 0, 1) := by decide +kernel
theorem dX9_chance_20 : decode cX9_chance 20 = .ok (.iload_n 1, 1) := by decide +kernel
theorem dX9_chance_21 : decode cX9_chance 21 = .ok (.invokevirtual 212, 3) := by decide +kernel
theorem dX9_chance_24 : decode cX9_chance 24 = .ok (.ifCond .ne 11, 3) := by decide +kernel
theorem dX9_chance_27 : decode cX9_chance 27 = .ok (.aload_n 0, 1) := by decide +kernel
theorem dX9_chance_28 : decode cX9_chance 28 = .ok (.iload_n 2, 1) := by decide +kernel
theorem dX9_chance_29 : decode cX9_chance 29 = .ok (.invokevirtual 265, 3) := by decide +kernel
theorem dX9_chance_32 : decode cX9_chance 32 = .ok (.ifCond .eq 8, 3) := by decide +kernel
theorem dX9_chance_35 : decode cX9_chance 35 = .ok (.bipush (-2), 2) := by decide +kernel
theorem dX9_chance_37 : decode cX9_chance 37 = .ok (.goto 10, 3) := by decide +kernel
theorem dX9_chance_40 : decode cX9_chance 40 = .ok (.aload_n 0, 1) := by decide +kernel
theorem dX9_chance_41 : decode cX9_chance 41 = .ok (.iload_n 1, 1) := by decide +kernel
theorem dX9_chance_42 : decode cX9_chance 42 = .ok (.iload_n 2, 1) := by decide +kernel
theorem dX9_chance_43 : decode cX9_chance 43 = .ok (.lload_n 3, 1) := by decide +kernel
theorem dX9_chance_44 : decode cX9_chance 44 = .ok (.invokevirtual 268, 3) := by decide +kernel
theorem dX9_chance_47 : decode cX9_chance 47 = .ok (.ireturn, 1) := by decide +kernel
theorem dX9_warn_0 : decode cX9_warn 0 = .ok (.iload_n 1, 1) := by decide +kernel
theorem dX9_warn_1 : decode cX9_warn 1 = .ok (.invokestatic 205, 3) := by decide +kernel
theorem dX9_warn_4 : decode cX9_warn 4 = .ok (.ifCond .ne 24, 3) := by decide +kernel
theorem dX9_warn_7 : decode cX9_warn 7 = .ok (.iload_n 2, 1) := by decide +kernel
theorem dX9_warn_8 : decode cX9_warn 8 = .ok (.iconst 1, 1) := by decide +kernel
theorem dX9_warn_9 : decode cX9_warn 9 = .ok (.bipush 24, 2) := by decide +kernel
theorem dX9_warn_11 : decode cX9_warn 11 = .ok (.invokestatic 99, 3) := by decide +kernel
theorem dX9_warn_14 : decode cX9_warn 14 = .ok (.ifCond .ne 14, 3) := by decide +kernel
theorem dX9_warn_17 : decode cX9_warn 17 = .ok (.iload 5, 2) := by decide +kernel
theorem dX9_warn_19 : decode cX9_warn 19 = .ok (.iconst 0, 1) := by decide +kernel
theorem dX9_warn_20 : decode cX9_warn 20 = .ok (.bipush 100, 2) := by decide +kernel
theorem dX9_warn_22 : decode cX9_warn 22 = .ok (.invokestatic 99, 3) := by decide +kernel
theorem dX9_warn_25 : decode cX9_warn 25 = .ok (.ifCond .eq 5, 3) := by decide +kernel
theorem dX9_warn_28 : decode cX9_warn 28 = .ok (.iconst (-1), 1) := by decide +kernel
theorem dX9_warn_29 : decode cX9_warn 29 = .ok (.ireturn, 1) := by decide +kernel
theorem dX9_warn_30 : decode cX9_warn 30 = .ok (.aload_n 0, 1) := by decide +kernel
theorem dX9_warn_31 : decode cX9_warn 31 = .ok (.iload_n 1, 1) := by decide +kernel
theorem dX9_warn_32 : decode cX9_warn 32 = .ok (.invokevirtual 212, 3) := by decide +kernel
theorem dX9_warn_35 : decode cX9_warn 35 = .ok (.ifCond .ne 11, 3) := by decide +kernel
theorem dX9_warn_38 : decode cX9_warn 38 = .ok (.aload_n 0, 1) := by decide +kernel
theorem dX9_warn_39 : decode cX9_warn 39 = .ok (.iload_n 2, 1) := by decide +kernel
theorem dX9_warn_40 : decode cX9_warn 40 = .ok (.invokevirtual 265, 3) := by decide +kernel
theorem dX9_warn_43 : decode cX9_warn 43 = .ok (.ifCond .eq 6, 3) := by decide +kernel
theorem dX9_warn_46 : decode cX9_warn 46 = .ok (.bipush (-2), 2) := by decide +kernel
theorem dX9_warn_48 : decode cX9_warn 48 = .ok (.ireturn, 1) := by decide +kernel
theorem dX9_warn_49 : decode cX9_warn 49 = .ok (.aload_n 0, 1) := by decide +kernel
theorem dX9_warn_50 : decode cX9_warn 50 = .ok (.iload_n 1, 1) := by decide +kernel
theorem dX9_warn_51 : decode cX9_warn 51 = .ok (.iload_n 2, 1) := by decide +kernel
theorem dX9_warn_52 : decode cX9_warn 52 = .ok (.lload_n 3, 1) := by decide +kernel
theorem dX9_warn_53 : decode cX9_warn 53 = .ok (.invokevirtual 268, 3) := by decide +kernel
theorem dX9_warn_56 : decode cX9_warn 56 = .ok (.bipush 100, 2) := by decide +kernel
theorem dX9_warn_58 : decode cX9_warn 58 = .ok (.imul, 1) := by decide +kernel
theorem dX9_warn_59 : decode cX9_warn 59 = .ok (.iload 5, 2) := by decide +kernel
theorem dX9_warn_61 : decode cX9_warn 61 = .ok (.aload_n 0, 1) := by decide +kernel
theorem dX9_warn_62 : decode cX9_warn 62 = .ok (.getfield 88, 3) := by decide +kernel
theorem dX9_warn_65 : decode cX9_warn 65 = .ok (.invokevirtual 272, 3) := by decide +kernel
theorem dX9_warn_68 : decode cX9_warn 68 = .ok (.imul, 1) := by decide +kernel
theorem dX9_warn_69 : decode cX9_warn 69 = .ok (.if_icmp .lt 7, 3) := by decide +kernel
theorem dX9_warn_72 : decode cX9_warn 72 = .ok (.iconst 1, 1) := by decide +kernel
theorem dX9_warn_73 : decode cX9_warn 73 = .ok (.goto 4, 3) := by decide +kernel
theorem dX9_warn_76 : decode cX9_warn 76 = .ok (.iconst 0, 1) := by decide +kernel
theorem dX9_warn_77 : decode cX9_warn 77 = .ok (.istore 6, 2) := by decide +kernel
theorem dX9_warn_79 : decode cX9_warn 79 = .ok (.aload_n 0, 1) := by decide +kernel
theorem dX9_warn_80 : decode cX9_warn 80 = .ok (.iload_n 1, 1) := by decide +kernel
theorem dX9_warn_81 : decode cX9_warn 81 = .ok (.iload_n 2, 1) := by decide +kernel
theorem dX9_warn_82 : decode cX9_warn 82 = .ok (.iconst (-1), 1) := by decide +kernel
theorem dX9_warn_83 : decode cX9_warn 83 = .ok (.invokevirtual 275, 3) := by decide +kernel
theorem dX9_warn_86 : decode cX9_warn 86 = .ok (.lload_n 3, 1) := by decide +kernel
theorem dX9_warn_87 : decode cX9_warn 87 = .ok (.lcmp, 1) := by decide +kernel
theorem dX9_warn_88 : decode cX9_warn 88 = .ok (.ifCond .le 7, 3) := by decide +kernel
theorem dX9_warn_91 : decode cX9_warn 91 = .ok (.iconst 1, 1) := by decide +kernel
theorem dX9_warn_92 : decode cX9_warn 92 = .ok (.goto 4, 3) := by decide +kernel
theorem dX9_warn_95 : decode cX9_warn 95 = .ok (.iconst 0, 1) := by decide +kernel
theorem dX9_warn_96 : decode cX9_warn 96 = .ok (.istore 7, 2) := by decide +kernel
theorem dX9_warn_98 : decode cX9_warn 98 = .ok (.aload_n 0, 1) := by decide +kernel
theorem dX9_warn_99 : decode cX9_warn 99 = .ok (.getfield 88, 3) := by decide +kernel
theorem dX9_warn_102 : decode cX9_warn 102 = .ok (.iload 6, 2) := by decide +kernel
theorem dX9_warn_104 : decode cX9_warn 104 = .ok (.iload 7, 2) := by decide +kernel
theorem dX9_warn_106 : decode cX9_warn 106 = .ok (.invokevirtual 279, 3) := by decide +kernel
theorem dX9_warn_109 : decode cX9_warn 109 = .ok (.iload 6, 2) := by decide +kernel
theorem dX9_warn_111 : decode cX9_warn 111 = .ok (.ifCond .eq 7, 3) := by decide +kernel
theorem dX9_warn_114 : decode cX9_warn 114 = .ok (.iconst 1, 1) := by decide +kernel
theorem dX9_warn_115 : decode cX9_warn 115 = .ok (.goto 4, 3) := by decide +kernel
theorem dX9_warn_118 : decode cX9_warn 118 = .ok (.iconst 0, 1) := by decide +kernel
theorem dX9_warn_119 : decode cX9_warn 119 = .ok (.ireturn, 1) := by decide +kernel
def uX9_item : List Cond := .code yX9_item cX9_item 3 (some .int) :: ([.methodLink RX9 127 yX9_isNoItem, .static yX9_isNoItem, .initialized RX9, .methodLink RX9 99 yX9_isOutside, .static yX9_isOutside, .methodLink RX9 131 yX9_lacksItem, .instanceMethod yX9_lacksItem, .selects RX9 yX9_lacksItem yX9_lacksItem, .fieldLink RX9 19 "RiverModel" "model" "LRiverModel$Model;", .methodLink RX9 134 yX4_cell, .instanceMethod yX4_cell, .selects RX4 yX4_cell yX4_cell, .initialized RX4, .code yX9_isNoItem cX9_isNoItem 1 (some .boolean), .code yX9_isOutside cX9_isOutside 3 (some .boolean), .code yX9_lacksItem cX9_lacksItem 2 (some .boolean), .fieldLink RX9 29 "RiverModel" "isBuilt" "Z", .fieldLink RX9 124 "RiverModel$Model" "many" "I", .code yX4_cell cX4_cell 3 (some .int), .fieldLink RX4 9 "RiverModel$Model" "cells" "[I"] ++ wsX90 ++ wsX40)
set_option maxRecDepth 20000 in
theorem gu_X9_item_X9_isNoItem_127 : GoodIn uX9_item (va_wsS RX9 127 yX9_isNoItem uX9_isNoItem) := goodIn_r _ [1, 2, 3, 14] rfl (by decide +kernel)
set_option maxRecDepth 20000 in
theorem gu_X9_item_X9_isOutside_99 : GoodIn uX9_item (va_wsS RX9 99 yX9_isOutside uX9_isOutside) := goodIn_r _ [4, 5, 3, 15] rfl (by decide +kernel)
set_option maxRecDepth 20000 in
theorem gu_X9_item_X9_lacksItem_131 : GoodIn uX9_item (wsV RX9 131 RX9 yX9_lacksItem uX9_lacksItem) := goodIn_r _ [6, 7, 8, 3, 16, 17, 9, 18, 21, 22, 23, 24, 25, 26, 27, 28, 29, 30, 31, 32, 33, 34, 35, 36, 37, 38, 39, 40, 41, 42, 43, 44] rfl (by decide +kernel)
set_option maxRecDepth 20000 in
theorem gu_X9_item_X4_cell_134 : GoodIn uX9_item (wsV RX9 134 RX4 yX4_cell uX4_cell) := goodIn_r _ [10, 11, 12, 13, 19, 20, 39, 40, 41, 42, 43, 44] rfl (by decide +kernel)
set_option maxHeartbeats 4000000 in
set_option maxRecDepth 100000 in
theorem s_X9_item (l : Launch) (D : va_G) (t : Nat → Nat) (cI cL cC : ClassId) (gC : Int32) (gE : Int32) (G : Nat) (gW : Nat → Int32) (gA : Nat → Int32) (a0 : Nat) (a1 : Int32) (a2 : Int32) (k_a0 : t a0 = 1) : tM l yX9_item uX9_item 1 22 D (gF cI cL cC gC gE G gW gA) (gF cI cL cC gC gE G gW gA) t cI cL cC [.ref a0, .int a1, .int a2] wr0 (pI (fun r => True)) := by
  refine tM.ofW (cc := cX9_item) (maxL := 3) (ret := (some .int)) (by decide) rfl (Nat.le_of_ble_eq_true rfl) ?_
  intro p e s m below meth c hx hb hr hml hown hts hlk H locs hG hK hE hS ls hl
  have hl : lv_has ls 3 [(0, .ref a0), (1, .int a1), (2, .int a2)] := hl
  have in9 : ∀ w ∈ wsX90, w ∈ uX9_item := fun w h => List.mem_cons_of_mem _ (List.mem_append_left _ (List.mem_append_right _ h))
  refine lv_iload_n hx hb dX9_item_0 rfl (lv_at hl 1 rfl) ?_
  refine ty_calli ((W.runS (As := [.int a1]) (rest := []) ⟨hx, hb, hml, hown, hts⟩ (s_X9_isNoItem l D t cI cL cC gC gE G gW gA a1 ) (va_cwS 1 hts gu_X9_item_X9_isNoItem_127 rfl rfl rfl (by decide +kernel) ⟨Nat.le_of_ble_eq_true rfl, Nat.le_of_ble_eq_true rfl⟩) (tP_S hG hE) rfl rfl hl.1 rfl (lv_room (Nat.le_of_ble_eq_true rfl)) dX9_item_1 ⟨Nat.le_of_ble_eq_true rfl, Nat.le_of_ble_eq_true rfl⟩)) hS (fun _ h => h) (fun r_1 H locs hp_2 hG hS o_3 => ?_)
  rcases hp_2 with ⟨rfl, hc_125⟩ | ⟨rfl, hc_126, hc_127⟩
  · skip
    refine lv_if_ne (tgt := 16) hx hb dX9_item_4 (by decide) (fun _ => ?_) (fun q => absurd q (by decide))
    refine lv_iconst (v := (-1)) hx hb dX9_item_16 (by decide) ?_
    exact ty_iret hx hb hr hlk hG hS True.intro dX9_item_17
  · skip
    refine lv_if_ne (tgt := 16) hx hb dX9_item_4 (by decide) (fun q => absurd rfl q) (fun _ => ?_)
    refine lv_iload_n hx hb dX9_item_7 rfl (lv_at hl 2 rfl) ?_
    refine lv_pc (pc2 := 8) rfl ?_
    refine lv_iconst (v := 0) hx hb dX9_item_8 (by decide) ?_
    refine lv_iconst (v := 5) hx hb dX9_item_9 (by decide) ?_
    refine ty_calli ((W.runS (As := [.int a2, .int 0, .int 5]) (rest := []) ⟨hx, hb, hml, hown, hts⟩ (s_X9_isOutside l D t cI cL cC gC gE G gW gA a2 0 5 0 5 (by decide) (by decide) ) (va_cwS 3 hts gu_X9_item_X9_isOutside_99 rfl rfl rfl (by decide +kernel) ⟨Nat.le_of_ble_eq_true rfl, Nat.le_of_ble_eq_true rfl⟩) (tP_S hG hE) rfl rfl hl.1 rfl (lv_room (Nat.le_of_ble_eq_true rfl)) dX9_item_10 ⟨Nat.le_of_ble_eq_true rfl, Nat.le_of_ble_eq_true rfl⟩)) hS (fun _ h => h) (fun r_4 H locs hp_5 hG hS o_6 => ?_)
    rcases hp_5 with ⟨rfl, hc_128⟩ | ⟨rfl, hc_129, hc_130⟩
    · skip
      refine lv_if_eq (tgt := 18) hx hb dX9_item_13 (by decide) (fun q => absurd q (by decide)) (fun _ => ?_)
      refine lv_iconst (v := (-1)) hx hb dX9_item_16 (by decide) ?_
      exact ty_iret hx hb hr hlk hG hS True.intro dX9_item_17
    · skip
      refine lv_if_eq (tgt := 18) hx hb dX9_item_13 (by decide) (fun _ => ?_) (fun q => absurd (by decide) q)
      refine lv_aload_n hx hb dX9_item_18 rfl (lv_at hl 0 rfl) ?_
      refine lv_pc (pc2 := 19) rfl ?_
      refine lv_iload_n hx hb dX9_item_19 rfl (lv_at hl 1 rfl) ?_
      obtain ⟨r_7, r_9, r_11, r_13, v_15, v_16, r_17, r_19, r_21, r_23, r_25, r_27, r_29, v_31, r_33, r_35, r_37, r_39, at_41, h_8, h_10, h_12, h_14, h_18, h_20, h_22, h_24, h_26, h_28, h_30, h_32, h_34, h_36, h_38, h_40⟩ := gF_o1 hG k_a0
      refine ty_calli ((W.runV (As := [.int a1]) (rest := []) ⟨hx, hb, hml, hown, hts⟩ (s_X9_lacksItem l D t cI cL cC gC gE G gW gA a0 a1 k_a0) (cwV 1 hts gu_X9_item_X9_lacksItem_131 rfl rfl rfl (by decide +kernel) ⟨Nat.le_of_ble_eq_true rfl, Nat.le_of_ble_eq_true rfl⟩) (tP_V hG hE at_41 rfl) rfl rfl hl.1 rfl (lv_room (Nat.le_of_ble_eq_true rfl)) dX9_item_20 ⟨Nat.le_of_ble_eq_true rfl, Nat.le_of_ble_eq_true rfl⟩)) hS (fun _ h => h) (fun r_42 H locs hp_43 hG hS o_44 => ?_)
      have at_41 := va_at.keptC at_41 o_44 k_a0 rfl
      rcases hp_43 with rfl | rfl
      · skip
        refine lv_if_eq (tgt := 31) hx hb dX9_item_23 (by decide) (fun _ => ?_) (fun q => absurd (by decide) q)
        refine lv_aload_n hx hb dX9_item_31 rfl (lv_at hl 0 rfl) ?_
        refine va_get (D := D) (ci := 8) (v := .ref r_9) (C := RX9) (T := TX9) (N := 18) hx hb hts in9 hown hK (va_one at_41) 0 rfl rfl 1 (by decide) (hts (.fieldLink RX9 19 "RiverModel" "model" "LRiverModel$Model;") (List.mem_of_getElem? (i := 9) rfl)) (fun _ h9 => h9) rfl dX9_item_32 ?_
        refine lv_iload_n hx hb dX9_item_35 rfl (lv_at hl 1 rfl) ?_
        refine lv_iload_n hx hb dX9_item_36 rfl (lv_at hl 2 rfl) ?_
        obtain ⟨r_45, r_47, r_49, v_51, v_52, v_53, at_55, h_46, h_48, h_50, h_54⟩ := gF_o3 hG h_10
        refine ty_calli ((W.runV (As := [.int a1, .int a2]) (rest := []) ⟨hx, hb, hml, hown, hts⟩ (s_X4_cell l D t cI cL cC gC gE G gW gA r_9 a1 a2 h_10) (cwV 2 hts gu_X9_item_X4_cell_134 rfl rfl rfl (by decide +kernel) ⟨Nat.le_of_ble_eq_true rfl, Nat.le_of_ble_eq_true rfl⟩) (tP_V hG hE at_55 rfl) rfl rfl hl.1 rfl (lv_room (Nat.le_of_ble_eq_true rfl)) dX9_item_37 ⟨Nat.le_of_ble_eq_true rfl, Nat.le_of_ble_eq_true rfl⟩)) hS (fun _ h => h) (fun r_56 H locs hp_57 hG hS o_58 => ?_)
        have at_41 := va_at.keptC at_41 o_58 k_a0 rfl
        have at_55 := va_at.keptC at_55 o_58 h_10 rfl
        refine lv_pc (pc2 := 40) rfl ?_
        exact ty_iret hx hb hr hlk hG hS True.intro dX9_item_40
      · skip
        refine lv_if_eq (tgt := 31) hx hb dX9_item_23 (by decide) (fun q => absurd q (by decide)) (fun _ => ?_)
        refine lv_bipush (v := (-2)) hx hb dX9_item_26 (by decide) ?_
        refine lv_goto (tgt := 40) hx hb dX9_item_28 (by decide) ?_
        exact ty_iret hx hb hr hlk hG hS True.intro dX9_item_40

def uX9_has : List Cond := .code yX9_has cX9_has 3 (some .long) :: ([.methodLink RX9 155 yX9_isNoStore, .static yX9_isNoStore, .initialized RX9, .constantLong RX9 158 (-1), .methodLink RX9 99 yX9_isOutside, .static yX9_isOutside, .methodLink RX9 160 yX9_lacksStore, .instanceMethod yX9_lacksStore, .selects RX9 yX9_lacksStore yX9_lacksStore, .fieldLink RX9 53 "RiverModel" "now" "LRiverModel$Course;", .methodLink RX9 169 yX0_underWayTo, .instanceMethod yX0_underWayTo, .selects RX0 yX0_underWayTo yX0_underWayTo, .initialized RX0, .fieldLink RX9 165 "RiverModel$Course" "held" "[J", .constantLong RX9 163 (-2), .code yX9_isNoStore cX9_isNoStore 1 (some .boolean), .code yX9_isOutside cX9_isOutside 3 (some .boolean), .code yX9_lacksStore cX9_lacksStore 2 (some .boolean), .fieldLink RX9 29 "RiverModel" "isBuilt" "Z", .fieldLink RX9 19 "RiverModel" "model" "LRiverModel$Model;", .methodLink RX9 343 yX4_hasStore, .instanceMethod yX4_hasStore, .selects RX4 yX4_hasStore yX4_hasStore, .initialized RX4, .code yX4_hasStore cX4_hasStore 2 (some .boolean), .fieldLink RX4 15 "RiverModel$Model" "storeItems" "[I", .code yX0_underWayTo cX0_underWayTo 5 (some .long), .fieldLink RX0 22 "RiverModel$Course" "due" "[J"] ++ wsX90 ++ wsX00 ++ wsX40)
set_option maxRecDepth 20000 in
theorem gu_X9_has_X9_isNoStore_155 : GoodIn uX9_has (va_wsS RX9 155 yX9_isNoStore uX9_isNoStore) := goodIn_r _ [1, 2, 3, 17] rfl (by decide +kernel)
set_option maxRecDepth 20000 in
theorem gu_X9_has_X9_isOutside_99 : GoodIn uX9_has (va_wsS RX9 99 yX9_isOutside uX9_isOutside) := goodIn_r _ [5, 6, 3, 18] rfl (by decide +kernel)
set_option maxRecDepth 20000 in
theorem gu_X9_has_X9_lacksStore_160 : GoodIn uX9_has (wsV RX9 160 RX9 yX9_lacksStore uX9_lacksStore) := goodIn_r _ [7, 8, 9, 3, 19, 20, 21, 22, 23, 24, 25, 26, 27, 30, 31, 32, 33, 34, 35, 36, 37, 38, 39, 40, 41, 42, 43, 44, 45, 46, 47, 56, 57, 58, 59, 60, 61] rfl (by decide +kernel)
set_option maxRecDepth 20000 in
theorem gu_X9_has_X0_underWayTo_169 : GoodIn uX9_has (wsV RX9 169 RX0 yX0_underWayTo uX0_underWayTo) := goodIn_r _ [11, 12, 13, 14, 28, 3, 2, 29, 17, 48, 49, 50, 51, 52, 53, 54, 55] rfl (by decide +kernel)
set_option maxHeartbeats 4000000 in
set_option maxRecDepth 100000 in
theorem s_X9_has (l : Launch) (D : va_G) (t : Nat → Nat) (cI cL cC : ClassId) (gC : Int32) (gE : Int32) (G : Nat) (gW : Nat → Int32) (gA : Nat → Int32) (a0 : Nat) (a1 : Int32) (a2 : Int32) (k_a0 : t a0 = 1) : tM l yX9_has uX9_has 2 44 D (gF cI cL cC gC gE G gW gA) (gF cI cL cC gC gE G gW gA) t cI cL cC [.ref a0, .int a1, .int a2] wr0 (pL (fun r => True)) := by
  refine tM.ofW (cc := cX9_has) (maxL := 3) (ret := (some .long)) (by decide) rfl (Nat.le_of_ble_eq_true rfl) ?_
  intro p e s m below meth c hx hb hr hml hown hts hlk H locs hG hK hE hS ls hl
  have hl : lv_has ls 3 [(0, .ref a0), (1, .int a1), (2, .int a2)] := hl
  have in9 : ∀ w ∈ wsX90, w ∈ uX9_has := fun w h => List.mem_cons_of_mem _ (List.mem_append_left _ (List.mem_append_left _ (List.mem_append_right _ h)))
  have in0 : ∀ w ∈ wsX00, w ∈ uX9_has := fun w h => List.mem_cons_of_mem _ (List.mem_append_left _ (List.mem_append_right _ h))
  refine lv_iload_n hx hb dX9_has_0 rfl (lv_at hl 1 rfl) ?_
  refine ty_calli ((W.runS (As := [.int a1]) (rest := []) ⟨hx, hb, hml, hown, hts⟩ (s_X9_isNoStore l D t cI cL cC gC gE G gW gA a1 ) (va_cwS 1 hts gu_X9_has_X9_isNoStore_155 rfl rfl rfl (by decide +kernel) ⟨Nat.le_of_ble_eq_true rfl, Nat.le_of_ble_eq_true rfl⟩) (tP_S hG hE) rfl rfl hl.1 rfl (lv_room (Nat.le_of_ble_eq_true rfl)) dX9_has_1 ⟨Nat.le_of_ble_eq_true rfl, Nat.le_of_ble_eq_true rfl⟩)) hS (fun _ h => h) (fun r_1 H locs hp_2 hG hS o_3 => ?_)
  rcases hp_2 with ⟨rfl, hc_131⟩ | ⟨rfl, hc_132, hc_133⟩
  · skip
    refine lv_if_ne (tgt := 16) hx hb dX9_has_4 (by decide) (fun _ => ?_) (fun q => absurd q (by decide))
    refine lv_ldc2 hx hb hown (hts (.constantLong RX9 158 (-1)) (List.mem_of_getElem? (i := 4) rfl)) dX9_has_16 ?_
    exact ty_lret hx hb hr hlk hG hS True.intro dX9_has_19
  · skip
    refine lv_if_ne (tgt := 16) hx hb dX9_has_4 (by decide) (fun q => absurd rfl q) (fun _ => ?_)
    refine lv_iload_n hx hb dX9_has_7 rfl (lv_at hl 2 rfl) ?_
    refine lv_pc (pc2 := 8) rfl ?_
    refine lv_iconst (v := 0) hx hb dX9_has_8 (by decide) ?_
    refine lv_iconst (v := 1) hx hb dX9_has_9 (by decide) ?_
    refine ty_calli ((W.runS (As := [.int a2, .int 0, .int 1]) (rest := []) ⟨hx, hb, hml, hown, hts⟩ (s_X9_isOutside l D t cI cL cC gC gE G gW gA a2 0 1 0 1 (by decide) (by decide) ) (va_cwS 3 hts gu_X9_has_X9_isOutside_99 rfl rfl rfl (by decide +kernel) ⟨Nat.le_of_ble_eq_true rfl, Nat.le_of_ble_eq_true rfl⟩) (tP_S hG hE) rfl rfl hl.1 rfl (lv_room (Nat.le_of_ble_eq_true rfl)) dX9_has_10 ⟨Nat.le_of_ble_eq_true rfl, Nat.le_of_ble_eq_true rfl⟩)) hS (fun _ h => h) (fun r_4 H locs hp_5 hG hS o_6 => ?_)
    rcases hp_5 with ⟨rfl, hc_134⟩ | ⟨rfl, hc_135, hc_136⟩
    · skip
      refine lv_if_eq (tgt := 20) hx hb dX9_has_13 (by decide) (fun q => absurd q (by decide)) (fun _ => ?_)
      refine lv_ldc2 hx hb hown (hts (.constantLong RX9 158 (-1)) (List.mem_of_getElem? (i := 4) rfl)) dX9_has_16 ?_
      exact ty_lret hx hb hr hlk hG hS True.intro dX9_has_19
    · skip
      refine lv_if_eq (tgt := 20) hx hb dX9_has_13 (by decide) (fun _ => ?_) (fun q => absurd (by decide) q)
      refine lv_aload_n hx hb dX9_has_20 rfl (lv_at hl 0 rfl) ?_
      refine lv_pc (pc2 := 21) rfl ?_
      refine lv_iload_n hx hb dX9_has_21 rfl (lv_at hl 1 rfl) ?_
      obtain ⟨r_7, r_9, r_11, r_13, v_15, v_16, r_17, r_19, r_21, r_23, r_25, r_27, r_29, v_31, r_33, r_35, r_37, r_39, at_41, h_8, h_10, h_12, h_14, h_18, h_20, h_22, h_24, h_26, h_28, h_30, h_32, h_34, h_36, h_38, h_40⟩ := gF_o1 hG k_a0
      refine ty_calli ((W.runV (As := [.int a1]) (rest := []) ⟨hx, hb, hml, hown, hts⟩ (s_X9_lacksStore l D t cI cL cC gC gE G gW gA a0 a1 k_a0) (cwV 1 hts gu_X9_has_X9_lacksStore_160 rfl rfl rfl (by decide +kernel) ⟨Nat.le_of_ble_eq_true rfl, Nat.le_of_ble_eq_true rfl⟩) (tP_V hG hE at_41 rfl) rfl rfl hl.1 rfl (lv_room (Nat.le_of_ble_eq_true rfl)) dX9_has_22 ⟨Nat.le_of_ble_eq_true rfl, Nat.le_of_ble_eq_true rfl⟩)) hS (fun _ h => h) (fun r_42 H locs hp_43 hG hS o_44 => ?_)
      have at_41 := va_at.keptC at_41 o_44 k_a0 rfl
      rcases hp_43 with rfl | rfl
      · skip
        refine lv_if_eq (tgt := 32) hx hb dX9_has_25 (by decide) (fun _ => ?_) (fun q => absurd (by decide) q)
        refine lv_iload_n hx hb dX9_has_32 rfl (lv_at hl 2 rfl) ?_
        refine lv_if_ne (tgt := 48) hx hb dX9_has_33 (by decide) (fun c_45 => ?_) (fun c_45 => ?_)
        · skip
          have c_45 : a2.toInt ≠ 0 := q_ne c_45
          refine lv_aload_n hx hb dX9_has_48 rfl (lv_at hl 0 rfl) ?_
          refine va_get (D := D) (ci := 8) (v := .ref r_23) (C := RX9) (T := TX9) (N := 18) hx hb hts in9 hown hK (va_one at_41) 0 rfl rfl 9 (by decide) (hts (.fieldLink RX9 53 "RiverModel" "now" "LRiverModel$Course;") (List.mem_of_getElem? (i := 10) rfl)) (fun _ h9 => h9) rfl dX9_has_49 ?_
          refine lv_iload_n hx hb dX9_has_52 rfl (lv_at hl 1 rfl) ?_
          refine lv_pc (pc2 := 53) rfl ?_
          obtain ⟨r_46, r_48, r_50, r_52, v_54, v_55, v_56, v_57, at_59, h_47, h_49, h_51, h_53, h_58⟩ := gF_o5 hG h_24
          refine ty_calll ((W.runV (As := [.int a1]) (rest := []) ⟨hx, hb, hml, hown, hts⟩ (s_X0_underWayTo l D t cI cL cC gC gE G gW gA r_23 a1 h_24) (cwV 1 hts gu_X9_has_X0_underWayTo_169 rfl rfl rfl (by decide +kernel) ⟨Nat.le_of_ble_eq_true rfl, Nat.le_of_ble_eq_true rfl⟩) (tP_V hG hE at_59 rfl) rfl rfl hl.1 rfl (lv_room (Nat.le_of_ble_eq_true rfl)) dX9_has_53 ⟨Nat.le_of_ble_eq_true rfl, Nat.le_of_ble_eq_true rfl⟩)) hS (fun _ h => h) (fun z_60 H locs hp_61 hG hS o_62 => ?_)
          have at_41 := va_at.keptC at_41 o_62 k_a0 rfl
          have at_59 := va_at.keptC at_59 o_62 h_24 rfl
          exact ty_lret hx hb hr hlk hG hS True.intro dX9_has_56
        · skip
          have c_45 : a2.toInt = 0 := q_eq c_45
          refine lv_aload_n hx hb dX9_has_36 rfl (lv_at hl 0 rfl) ?_
          refine va_get (D := D) (ci := 8) (v := .ref r_23) (C := RX9) (T := TX9) (N := 18) hx hb hts in9 hown hK (va_one at_41) 0 rfl rfl 9 (by decide) (hts (.fieldLink RX9 53 "RiverModel" "now" "LRiverModel$Course;") (List.mem_of_getElem? (i := 10) rfl)) (fun _ h9 => h9) rfl dX9_has_37 ?_
          obtain ⟨r_63, r_65, r_67, r_69, v_71, v_72, v_73, v_74, at_76, h_64, h_66, h_68, h_70, h_75⟩ := gF_o5 hG h_24
          refine va_get (D := D) (ci := 0) (v := .ref r_63) (C := RX0) (T := TX0) (N := 8) hx hb hts in0 hown hK (va_one at_76) 0 rfl rfl 0 (by decide) (hts (.fieldLink RX9 165 "RiverModel$Course" "held" "[J") (List.mem_of_getElem? (i := 15) rfl)) (fun _ h9 => h9) rfl dX9_has_40 ?_
          refine lv_iload_n hx hb dX9_has_43 rfl (lv_at hl 1 rfl) ?_
          obtain ⟨f_77, at_78⟩ := gF_o17 hG h_64
          have b_79 : vp_in a1 16 := (q_in (by omega) (by omega))
          refine va_lald hx hb hK (va_one at_78) 0 1 rfl rfl b_79 dX9_has_44 ?_
          refine lv_topl (fun z_80 e_81 => ?_)
          refine lv_goto (tgt := 56) hx hb dX9_has_45 (by decide) ?_
          refine lv_pc (pc2 := 56) rfl ?_
          exact ty_lret hx hb hr hlk hG hS True.intro dX9_has_56
      · skip
        refine lv_if_eq (tgt := 32) hx hb dX9_has_25 (by decide) (fun q => absurd q (by decide)) (fun _ => ?_)
        refine lv_ldc2 hx hb hown (hts (.constantLong RX9 163 (-2)) (List.mem_of_getElem? (i := 16) rfl)) dX9_has_28 ?_
        exact ty_lret hx hb hr hlk hG hS True.intro dX9_has_31

def uX9_flow : List Cond := .code yX9_flow cX9_flow 2 (some .long) :: ([.methodLink RX9 127 yX9_isNoItem, .static yX9_isNoItem, .initialized RX9, .constantLong RX9 158 (-1), .methodLink RX9 131 yX9_lacksItem, .instanceMethod yX9_lacksItem, .selects RX9 yX9_lacksItem yX9_lacksItem, .fieldLink RX9 53 "RiverModel" "now" "LRiverModel$Course;", .fieldLink RX9 144 "RiverModel$Course" "hours" "I", .fieldLink RX9 173 "RiverModel$Course" "moved" "[J", .constantLong RX9 163 (-2), .code yX9_isNoItem cX9_isNoItem 1 (some .boolean), .code yX9_lacksItem cX9_lacksItem 2 (some .boolean), .fieldLink RX9 29 "RiverModel" "isBuilt" "Z", .fieldLink RX9 19 "RiverModel" "model" "LRiverModel$Model;", .fieldLink RX9 124 "RiverModel$Model" "many" "I"] ++ wsX90 ++ wsX00 ++ wsX40)
set_option maxRecDepth 20000 in
theorem gu_X9_flow_X9_isNoItem_127 : GoodIn uX9_flow (va_wsS RX9 127 yX9_isNoItem uX9_isNoItem) := goodIn_r _ [1, 2, 3, 12] rfl (by decide +kernel)
set_option maxRecDepth 20000 in
theorem gu_X9_flow_X9_lacksItem_131 : GoodIn uX9_flow (wsV RX9 131 RX9 yX9_lacksItem uX9_lacksItem) := goodIn_r _ [5, 6, 7, 3, 13, 14, 15, 16, 17, 18, 19, 20, 21, 22, 23, 24, 25, 26, 27, 28, 29, 30, 31, 32, 33, 34, 43, 44, 45, 46, 47, 48] rfl (by decide +kernel)
set_option maxHeartbeats 4000000 in
set_option maxRecDepth 100000 in
theorem s_X9_flow (l : Launch) (D : va_G) (t : Nat → Nat) (cI cL cC : ClassId) (gC : Int32) (gE : Int32) (G : Nat) (gW : Nat → Int32) (gA : Nat → Int32) (a0 : Nat) (a1 : Int32) (k_a0 : t a0 = 1) : tM l yX9_flow uX9_flow 1 21 D (gF cI cL cC gC gE G gW gA) (gF cI cL cC gC gE G gW gA) t cI cL cC [.ref a0, .int a1] wr0 (pL (fun r => True)) := by
  refine tM.ofW (cc := cX9_flow) (maxL := 2) (ret := (some .long)) (by decide) rfl (Nat.le_of_ble_eq_true rfl) ?_
  intro p e s m below meth c hx hb hr hml hown hts hlk H locs hG hK hE hS ls hl
  have hl : lv_has ls 2 [(0, .ref a0), (1, .int a1)] := hl
  have in9 : ∀ w ∈ wsX90, w ∈ uX9_flow := fun w h => List.mem_cons_of_mem _ (List.mem_append_left _ (List.mem_append_left _ (List.mem_append_right _ h)))
  have in0 : ∀ w ∈ wsX00, w ∈ uX9_flow := fun w h => List.mem_cons_of_mem _ (List.mem_append_left _ (List.mem_append_right _ h))
  refine lv_iload_n hx hb dX9_flow_0 rfl (lv_at hl 1 rfl) ?_
  refine ty_calli ((W.runS (As := [.int a1]) (rest := []) ⟨hx, hb, hml, hown, hts⟩ (s_X9_isNoItem l D t cI cL cC gC gE G gW gA a1 ) (va_cwS 1 hts gu_X9_flow_X9_isNoItem_127 rfl rfl rfl (by decide +kernel) ⟨Nat.le_of_ble_eq_true rfl, Nat.le_of_ble_eq_true rfl⟩) (tP_S hG hE) rfl rfl hl.1 rfl (lv_room (Nat.le_of_ble_eq_true rfl)) dX9_flow_1 ⟨Nat.le_of_ble_eq_true rfl, Nat.le_of_ble_eq_true rfl⟩)) hS (fun _ h => h) (fun r_1 H locs hp_2 hG hS o_3 => ?_)
  rcases hp_2 with ⟨rfl, hc_137⟩ | ⟨rfl, hc_138, hc_139⟩
  · skip
    refine lv_if_eq (tgt := 11) hx hb dX9_flow_4 (by decide) (fun q => absurd q (by decide)) (fun _ => ?_)
    refine lv_ldc2 hx hb hown (hts (.constantLong RX9 158 (-1)) (List.mem_of_getElem? (i := 4) rfl)) dX9_flow_7 ?_
    exact ty_lret hx hb hr hlk hG hS True.intro dX9_flow_10
  · skip
    refine lv_if_eq (tgt := 11) hx hb dX9_flow_4 (by decide) (fun _ => ?_) (fun q => absurd (by decide) q)
    refine lv_aload_n hx hb dX9_flow_11 rfl (lv_at hl 0 rfl) ?_
    refine lv_pc (pc2 := 12) rfl ?_
    refine lv_iload_n hx hb dX9_flow_12 rfl (lv_at hl 1 rfl) ?_
    obtain ⟨r_4, r_6, r_8, r_10, v_12, v_13, r_14, r_16, r_18, r_20, r_22, r_24, r_26, v_28, r_30, r_32, r_34, r_36, at_38, h_5, h_7, h_9, h_11, h_15, h_17, h_19, h_21, h_23, h_25, h_27, h_29, h_31, h_33, h_35, h_37⟩ := gF_o1 hG k_a0
    refine ty_calli ((W.runV (As := [.int a1]) (rest := []) ⟨hx, hb, hml, hown, hts⟩ (s_X9_lacksItem l D t cI cL cC gC gE G gW gA a0 a1 k_a0) (cwV 1 hts gu_X9_flow_X9_lacksItem_131 rfl rfl rfl (by decide +kernel) ⟨Nat.le_of_ble_eq_true rfl, Nat.le_of_ble_eq_true rfl⟩) (tP_V hG hE at_38 rfl) rfl rfl hl.1 rfl (lv_room (Nat.le_of_ble_eq_true rfl)) dX9_flow_13 ⟨Nat.le_of_ble_eq_true rfl, Nat.le_of_ble_eq_true rfl⟩)) hS (fun _ h => h) (fun r_39 H locs hp_40 hG hS o_41 => ?_)
    have at_38 := va_at.keptC at_38 o_41 k_a0 rfl
    rcases hp_40 with rfl | rfl
    · skip
      refine lv_if_ne (tgt := 29) hx hb dX9_flow_16 (by decide) (fun q => absurd rfl q) (fun _ => ?_)
      refine lv_aload_n hx hb dX9_flow_19 rfl (lv_at hl 0 rfl) ?_
      refine va_get (D := D) (ci := 8) (v := .ref r_20) (C := RX9) (T := TX9) (N := 18) hx hb hts in9 hown hK (va_one at_38) 0 rfl rfl 9 (by decide) (hts (.fieldLink RX9 53 "RiverModel" "now" "LRiverModel$Course;") (List.mem_of_getElem? (i := 8) rfl)) (fun _ h9 => h9) rfl dX9_flow_20 ?_
      obtain ⟨r_42, r_44, r_46, r_48, v_50, v_51, v_52, v_53, at_55, h_43, h_45, h_47, h_49, h_54⟩ := gF_o5 hG h_21
      refine va_get (D := D) (ci := 0) (v := .int v_53) (C := RX0) (T := TX0) (N := 8) hx hb hts in0 hown hK (va_one at_55) 0 rfl rfl 7 (by decide) (hts (.fieldLink RX9 144 "RiverModel$Course" "hours" "I") (List.mem_of_getElem? (i := 9) rfl)) (fun _ h9 => h9) rfl dX9_flow_23 ?_
      refine lv_if_ne (tgt := 35) hx hb dX9_flow_26 (by decide) (fun c_56 => ?_) (fun c_56 => ?_)
      · skip
        have c_56 : v_53.toInt ≠ 0 := q_ne c_56
        refine lv_aload_n hx hb dX9_flow_35 rfl (lv_at hl 0 rfl) ?_
        refine lv_pc (pc2 := 36) rfl ?_
        refine va_get (D := D) (ci := 8) (v := .ref r_20) (C := RX9) (T := TX9) (N := 18) hx hb hts in9 hown hK (va_one at_38) 0 rfl rfl 9 (by decide) (hts (.fieldLink RX9 53 "RiverModel" "now" "LRiverModel$Course;") (List.mem_of_getElem? (i := 8) rfl)) (fun _ h9 => h9) rfl dX9_flow_36 ?_
        refine va_get (D := D) (ci := 0) (v := .ref r_44) (C := RX0) (T := TX0) (N := 8) hx hb hts in0 hown hK (va_one at_55) 0 rfl rfl 1 (by decide) (hts (.fieldLink RX9 173 "RiverModel$Course" "moved" "[J") (List.mem_of_getElem? (i := 10) rfl)) (fun _ h9 => h9) rfl dX9_flow_39 ?_
        refine lv_iload_n hx hb dX9_flow_42 rfl (lv_at hl 1 rfl) ?_
        obtain ⟨f_57, at_58⟩ := gF_o18 hG h_45
        have b_59 : vp_in a1 40 := (q_in (by omega) (by omega))
        refine va_lald hx hb hK (va_one at_58) 0 1 rfl rfl b_59 dX9_flow_43 ?_
        refine lv_topl (fun z_60 e_61 => ?_)
        exact ty_lret hx hb hr hlk hG hS True.intro dX9_flow_44
      · skip
        have c_56 : v_53.toInt = 0 := q_eq c_56
        refine lv_ldc2 hx hb hown (hts (.constantLong RX9 163 (-2)) (List.mem_of_getElem? (i := 11) rfl)) dX9_flow_29 ?_
        refine lv_goto (tgt := 44) hx hb dX9_flow_32 (by decide) ?_
        exact ty_lret hx hb hr hlk hG hS True.intro dX9_flow_44
    · skip
      refine lv_pc (pc2 := 16) rfl ?_
      refine lv_if_ne (tgt := 29) hx hb dX9_flow_16 (by decide) (fun _ => ?_) (fun q => absurd q (by decide))
      refine lv_ldc2 hx hb hown (hts (.constantLong RX9 163 (-2)) (List.mem_of_getElem? (i := 11) rfl)) dX9_flow_29 ?_
      refine lv_goto (tgt := 44) hx hb dX9_flow_32 (by decide) ?_
      exact ty_lret hx hb hr hlk hG hS True.intro dX9_flow_44

def uX9_gate : List Cond := .code yX9_gate cX9_gate 4 (some .int) :: ([.methodLink RX9 176 yX9_isNoGate, .static yX9_isNoGate, .initialized RX9, .methodLink RX9 99 yX9_isOutside, .static yX9_isOutside, .methodLink RX9 179 yX9_lacksGate, .instanceMethod yX9_lacksGate, .selects RX9 yX9_lacksGate yX9_lacksGate, .fieldLink RX9 53 "RiverModel" "now" "LRiverModel$Course;", .fieldLink RX9 182 "RiverModel$Course" "openings" "[I", .code yX9_isNoGate cX9_isNoGate 1 (some .boolean), .code yX9_isOutside cX9_isOutside 3 (some .boolean), .code yX9_lacksGate cX9_lacksGate 2 (some .boolean), .fieldLink RX9 29 "RiverModel" "isBuilt" "Z", .fieldLink RX9 19 "RiverModel" "model" "LRiverModel$Model;", .fieldLink RX9 333 "RiverModel$Model" "gates" "I"] ++ wsX90 ++ wsX00 ++ wsX40)
set_option maxRecDepth 20000 in
theorem gu_X9_gate_X9_isNoGate_176 : GoodIn uX9_gate (va_wsS RX9 176 yX9_isNoGate uX9_isNoGate) := goodIn_r _ [1, 2, 3, 11] rfl (by decide +kernel)
set_option maxRecDepth 20000 in
theorem gu_X9_gate_X9_isOutside_99 : GoodIn uX9_gate (va_wsS RX9 99 yX9_isOutside uX9_isOutside) := goodIn_r _ [4, 5, 3, 12] rfl (by decide +kernel)
set_option maxRecDepth 20000 in
theorem gu_X9_gate_X9_lacksGate_179 : GoodIn uX9_gate (wsV RX9 179 RX9 yX9_lacksGate uX9_lacksGate) := goodIn_r _ [6, 7, 8, 3, 13, 14, 15, 16, 17, 18, 19, 20, 21, 22, 23, 24, 25, 26, 27, 28, 29, 30, 31, 32, 33, 34, 43, 44, 45, 46, 47, 48] rfl (by decide +kernel)
set_option maxHeartbeats 4000000 in
set_option maxRecDepth 100000 in
theorem s_X9_gate (l : Launch) (D : va_G) (t : Nat → Nat) (cI cL cC : ClassId) (gC : Int32) (gE : Int32) (G : Nat) (gW : Nat → Int32) (gA : Nat → Int32) (a0 : Nat) (a1 : Int32) (a2 : Int32) (k_a0 : t a0 = 1) : tM l yX9_gate uX9_gate 1 22 D (gF cI cL cC gC gE G gW gA) (gF cI cL cC gC gE G gW gA) t cI cL cC [.ref a0, .int a1, .int a2] wrC (pI (fun r => True)) := by
  refine tM.ofW (cc := cX9_gate) (maxL := 4) (ret := (some .int)) (by decide) rfl (Nat.le_of_ble_eq_true rfl) ?_
  intro p e s m below meth c hx hb hr hml hown hts hlk H locs hG hK hE hS ls hl
  have hl : lv_has ls 4 [(0, .ref a0), (1, .int a1), (2, .int a2)] := hl
  have in9 : ∀ w ∈ wsX90, w ∈ uX9_gate := fun w h => List.mem_cons_of_mem _ (List.mem_append_left _ (List.mem_append_left _ (List.mem_append_right _ h)))
  have in0 : ∀ w ∈ wsX00, w ∈ uX9_gate := fun w h => List.mem_cons_of_mem _ (List.mem_append_left _ (List.mem_append_right _ h))
  refine lv_iload_n hx hb dX9_gate_0 rfl (lv_at hl 1 rfl) ?_
  refine ty_calli ((W.runS (As := [.int a1]) (rest := []) ⟨hx, hb, hml, hown, hts⟩ (s_X9_isNoGate l D t cI cL cC gC gE G gW gA a1 ) (va_cwS 1 hts gu_X9_gate_X9_isNoGate_176 rfl rfl rfl (by decide +kernel) ⟨Nat.le_of_ble_eq_true rfl, Nat.le_of_ble_eq_true rfl⟩) (tP_S hG hE) rfl rfl hl.1 rfl (lv_room (Nat.le_of_ble_eq_true rfl)) dX9_gate_1 ⟨Nat.le_of_ble_eq_true rfl, Nat.le_of_ble_eq_true rfl⟩)) hS (fun k h => by simp [wr0] at h) (fun r_1 H locs hp_2 hG hS o_3 => ?_)
  rcases hp_2 with ⟨rfl, hc_140⟩ | ⟨rfl, hc_141, hc_142⟩
  · skip
    refine lv_if_ne (tgt := 17) hx hb dX9_gate_4 (by decide) (fun _ => ?_) (fun q => absurd q (by decide))
    refine lv_iconst (v := (-1)) hx hb dX9_gate_17 (by decide) ?_
    exact ty_iret hx hb hr hlk hG hS True.intro dX9_gate_18
  · skip
    refine lv_if_ne (tgt := 17) hx hb dX9_gate_4 (by decide) (fun q => absurd rfl q) (fun _ => ?_)
    refine lv_iload_n hx hb dX9_gate_7 rfl (lv_at hl 2 rfl) ?_
    refine lv_pc (pc2 := 8) rfl ?_
    refine lv_iconst (v := 0) hx hb dX9_gate_8 (by decide) ?_
    refine lv_bipush (v := 10) hx hb dX9_gate_9 (by decide) ?_
    refine ty_calli ((W.runS (As := [.int a2, .int 0, .int 10]) (rest := []) ⟨hx, hb, hml, hown, hts⟩ (s_X9_isOutside l D t cI cL cC gC gE G gW gA a2 0 10 0 10 (by decide) (by decide) ) (va_cwS 3 hts gu_X9_gate_X9_isOutside_99 rfl rfl rfl (by decide +kernel) ⟨Nat.le_of_ble_eq_true rfl, Nat.le_of_ble_eq_true rfl⟩) (tP_S hG hE) rfl rfl hl.1 rfl (lv_room (Nat.le_of_ble_eq_true rfl)) dX9_gate_11 ⟨Nat.le_of_ble_eq_true rfl, Nat.le_of_ble_eq_true rfl⟩)) hS (fun k h => by simp [wr0] at h) (fun r_4 H locs hp_5 hG hS o_6 => ?_)
    rcases hp_5 with ⟨rfl, hc_143⟩ | ⟨rfl, hc_144, hc_145⟩
    · skip
      refine lv_if_eq (tgt := 19) hx hb dX9_gate_14 (by decide) (fun q => absurd q (by decide)) (fun _ => ?_)
      refine lv_iconst (v := (-1)) hx hb dX9_gate_17 (by decide) ?_
      exact ty_iret hx hb hr hlk hG hS True.intro dX9_gate_18
    · skip
      refine lv_if_eq (tgt := 19) hx hb dX9_gate_14 (by decide) (fun _ => ?_) (fun q => absurd (by decide) q)
      refine lv_aload_n hx hb dX9_gate_19 rfl (lv_at hl 0 rfl) ?_
      refine lv_pc (pc2 := 20) rfl ?_
      refine lv_iload_n hx hb dX9_gate_20 rfl (lv_at hl 1 rfl) ?_
      obtain ⟨r_7, r_9, r_11, r_13, v_15, v_16, r_17, r_19, r_21, r_23, r_25, r_27, r_29, v_31, r_33, r_35, r_37, r_39, at_41, h_8, h_10, h_12, h_14, h_18, h_20, h_22, h_24, h_26, h_28, h_30, h_32, h_34, h_36, h_38, h_40⟩ := gF_o1 hG k_a0
      refine ty_calli ((W.runV (As := [.int a1]) (rest := []) ⟨hx, hb, hml, hown, hts⟩ (s_X9_lacksGate l D t cI cL cC gC gE G gW gA a0 a1 k_a0) (cwV 1 hts gu_X9_gate_X9_lacksGate_179 rfl rfl rfl (by decide +kernel) ⟨Nat.le_of_ble_eq_true rfl, Nat.le_of_ble_eq_true rfl⟩) (tP_V hG hE at_41 rfl) rfl rfl hl.1 rfl (lv_room (Nat.le_of_ble_eq_true rfl)) dX9_gate_21 ⟨Nat.le_of_ble_eq_true rfl, Nat.le_of_ble_eq_true rfl⟩)) hS (fun k h => by simp [wr0] at h) (fun r_42 H locs hp_43 hG hS o_44 => ?_)
      have at_41 := va_at.keptC at_41 o_44 k_a0 rfl
      rcases hp_43 with rfl | rfl
      · skip
        refine lv_if_eq (tgt := 30) hx hb dX9_gate_24 (by decide) (fun _ => ?_) (fun q => absurd (by decide) q)
        refine lv_aload_n hx hb dX9_gate_30 rfl (lv_at hl 0 rfl) ?_
        refine va_get (D := D) (ci := 8) (v := .ref r_23) (C := RX9) (T := TX9) (N := 18) hx hb hts in9 hown hK (va_one at_41) 0 rfl rfl 9 (by decide) (hts (.fieldLink RX9 53 "RiverModel" "now" "LRiverModel$Course;") (List.mem_of_getElem? (i := 9) rfl)) (fun _ h9 => h9) rfl dX9_gate_31 ?_
        obtain ⟨r_45, r_47, r_49, r_51, v_53, v_54, v_55, v_56, at_58, h_46, h_48, h_50, h_52, h_57⟩ := gF_o5 hG h_24
        refine va_get (D := D) (ci := 0) (v := .ref r_49) (C := RX0) (T := TX0) (N := 8) hx hb hts in0 hown hK (va_one at_58) 0 rfl rfl 2 (by decide) (hts (.fieldLink RX9 182 "RiverModel$Course" "openings" "[I") (List.mem_of_getElem? (i := 10) rfl)) (fun _ h9 => h9) rfl dX9_gate_34 ?_
        refine lv_iload_n hx hb dX9_gate_37 rfl (lv_at hl 1 rfl) ?_
        obtain ⟨f_59, at_60⟩ := gF_o19 hG h_50
        have b_61 : vp_in a1 4 := (q_in (by omega) (by omega))
        refine va_iald hx hb hK (va_one at_60) 0 0 rfl rfl b_61 dX9_gate_38 ?_
        refine lv_topi (fun x_62 e_63 => ?_)
        refine lv_pc (pc2 := 39) rfl ?_
        refine lv_istore_n (lv' := [(3, .int x_62), (0, .ref a0), (1, .int a1), (2, .int a2)]) hx hb dX9_gate_39 rfl hl (by decide) rfl (fun ls hl => ?_)
        refine lv_aload_n hx hb dX9_gate_40 rfl (lv_at hl 1 rfl) ?_
        refine va_get (D := D) (ci := 8) (v := .ref r_23) (C := RX9) (T := TX9) (N := 18) hx hb hts in9 hown hK (va_one at_41) 0 rfl rfl 9 (by decide) (hts (.fieldLink RX9 53 "RiverModel" "now" "LRiverModel$Course;") (List.mem_of_getElem? (i := 9) rfl)) (fun _ h9 => h9) rfl dX9_gate_41 ?_
        refine va_get (D := D) (ci := 0) (v := .ref r_49) (C := RX0) (T := TX0) (N := 8) hx hb hts in0 hown hK (va_one at_58) 0 rfl rfl 2 (by decide) (hts (.fieldLink RX9 182 "RiverModel$Course" "openings" "[I") (List.mem_of_getElem? (i := 10) rfl)) (fun _ h9 => h9) rfl dX9_gate_44 ?_
        refine lv_iload_n hx hb dX9_gate_47 rfl (lv_at hl 2 rfl) ?_
        refine lv_iload_n hx hb dX9_gate_48 rfl (lv_at hl 3 rfl) ?_
        have b_64 : vp_in a1 4 := (q_in (by omega) (by omega))
        refine ty_iast (F2 := (gF cI cL cC gC gE G gW gA)) hx hb hK hG hS 0 at_60 (by rw [h_50]; rfl) rfl b_64 (by rw [h_50]; exact ⟨_, rfl⟩) tFF dX9_gate_49 (fun H locs hG hS at_65 o_66 => ?_)
        have at_41 := va_at.keptK at_41 o_66 h_50 k_a0 rfl
        have at_58 := va_at.keptK at_58 o_66 h_50 h_24 rfl
        refine lv_iload_n hx hb dX9_gate_50 rfl (lv_at hl 0 rfl) ?_
        refine lv_pc (pc2 := 51) rfl ?_
        exact ty_iret hx hb hr hlk hG hS True.intro dX9_gate_51
      · skip
        refine lv_if_eq (tgt := 30) hx hb dX9_gate_24 (by decide) (fun q => absurd q (by decide)) (fun _ => ?_)
        refine lv_bipush (v := (-2)) hx hb dX9_gate_27 (by decide) ?_
        exact ty_iret hx hb hr hlk hG hS True.intro dX9_gate_29

def uX9_book : List Cond := .code yX9_book cX9_book 2 (some .long) :: ([.methodLink RX9 99 yX9_isOutside, .static yX9_isOutside, .initialized RX9, .constantLong RX9 158 (-1), .fieldLink RX9 29 "RiverModel" "isBuilt" "Z", .fieldLink RX9 53 "RiverModel" "now" "LRiverModel$Course;", .fieldLink RX9 185 "RiverModel$Course" "rained" "J", .fieldLink RX9 189 "RiverModel$Course" "air" "J", .fieldLink RX9 192 "RiverModel$Course" "sea" "J", .methodLink RX9 195 yX0_heldByAll, .instanceMethod yX0_heldByAll, .selects RX0 yX0_heldByAll yX0_heldByAll, .initialized RX0, .methodLink RX9 199 yX0_underWayToAll, .instanceMethod yX0_underWayToAll, .selects RX0 yX0_underWayToAll yX0_underWayToAll, .fieldLink RX9 19 "RiverModel" "model" "LRiverModel$Model;", .methodLink RX9 202 yX4_startOfAll, .instanceMethod yX4_startOfAll, .selects RX4 yX4_startOfAll yX4_startOfAll, .initialized RX4, .constantLong RX9 163 (-2), .code yX9_isOutside cX9_isOutside 3 (some .boolean), .code yX0_heldByAll cX0_heldByAll 4 (some .long), .fieldLink RX0 9 "RiverModel$Course" "held" "[J", .code yX0_underWayToAll cX0_underWayToAll 4 (some .long), .fieldLink RX0 22 "RiverModel$Course" "due" "[J", .code yX4_startOfAll cX4_startOfAll 4 (some .long), .methodLink RX4 90 yX4_startOf, .instanceMethod yX4_startOf, .selects RX4 yX4_startOf yX4_startOf, .code yX4_startOf cX4_startOf 2 (some .int), .methodLink RX4 66 yX4_hasStore, .instanceMethod yX4_hasStore, .selects RX4 yX4_hasStore yX4_hasStore, .fieldLink RX4 15 "RiverModel$Model" "storeItems" "[I", .methodLink RX4 73 yX4_cell, .instanceMethod yX4_cell, .selects RX4 yX4_cell yX4_cell, .code yX4_hasStore cX4_hasStore 2 (some .boolean), .code yX4_cell cX4_cell 3 (some .int), .fieldLink RX4 9 "RiverModel$Model" "cells" "[I"] ++ wsX90 ++ wsX00 ++ wsX40)
set_option maxRecDepth 20000 in
theorem gu_X9_book_X9_isOutside_99 : GoodIn uX9_book (va_wsS RX9 99 yX9_isOutside uX9_isOutside) := goodIn_r _ [1, 2, 3, 23] rfl (by decide +kernel)
set_option maxRecDepth 20000 in
theorem gu_X9_book_X0_heldByAll_195 : GoodIn uX9_book (wsV RX9 195 RX0 yX0_heldByAll uX0_heldByAll) := goodIn_r _ [10, 11, 12, 13, 24, 25, 61, 62, 63, 64, 65, 66, 67, 68] rfl (by decide +kernel)
set_option maxRecDepth 20000 in
theorem gu_X9_book_X0_underWayToAll_199 : GoodIn uX9_book (wsV RX9 199 RX0 yX0_underWayToAll uX0_underWayToAll) := goodIn_r _ [14, 15, 16, 13, 26, 27, 61, 62, 63, 64, 65, 66, 67, 68] rfl (by decide +kernel)
set_option maxRecDepth 20000 in
theorem gu_X9_book_X4_startOfAll_202 : GoodIn uX9_book (wsV RX9 202 RX4 yX4_startOfAll uX4_startOfAll) := goodIn_r _ [18, 19, 20, 21, 28, 29, 30, 31, 21, 32, 33, 34, 35, 36, 37, 38, 39, 40, 41, 42, 69, 70, 71, 72, 73, 74] rfl (by decide +kernel)
set_option maxHeartbeats 4000000 in
set_option maxRecDepth 100000 in
theorem s_X9_book (l : Launch) (D : va_G) (t : Nat → Nat) (cI cL cC : ClassId) (gC : Int32) (gE : Int32) (G : Nat) (gW : Nat → Int32) (gA : Nat → Int32) (a0 : Nat) (a1 : Int32) (k_a0 : t a0 = 1) : tM l yX9_book uX9_book 3 66 D (gF cI cL cC gC gE G gW gA) (gF cI cL cC gC gE G gW gA) t cI cL cC [.ref a0, .int a1] wr0 (pL (fun r => True)) := by
  refine tM.ofW (cc := cX9_book) (maxL := 2) (ret := (some .long)) (by decide) rfl (Nat.le_of_ble_eq_true rfl) ?_
  intro p e s m below meth c hx hb hr hml hown hts hlk H locs hG hK hE hS ls hl
  have hl : lv_has ls 2 [(0, .ref a0), (1, .int a1)] := hl
  have in9 : ∀ w ∈ wsX90, w ∈ uX9_book := fun w h => List.mem_cons_of_mem _ (List.mem_append_left _ (List.mem_append_left _ (List.mem_append_right _ h)))
  have in0 : ∀ w ∈ wsX00, w ∈ uX9_book := fun w h => List.mem_cons_of_mem _ (List.mem_append_left _ (List.mem_append_right _ h))
  refine lv_iload_n hx hb dX9_book_0 rfl (lv_at hl 1 rfl) ?_
  refine lv_iconst (v := 0) hx hb dX9_book_1 (by decide) ?_
  refine lv_iconst (v := 5) hx hb dX9_book_2 (by decide) ?_
  refine ty_calli ((W.runS (As := [.int a1, .int 0, .int 5]) (rest := []) ⟨hx, hb, hml, hown, hts⟩ (s_X9_isOutside l D t cI cL cC gC gE G gW gA a1 0 5 0 5 (by decide) (by decide) ) (va_cwS 3 hts gu_X9_book_X9_isOutside_99 rfl rfl rfl (by decide +kernel) ⟨Nat.le_of_ble_eq_true rfl, Nat.le_of_ble_eq_true rfl⟩) (tP_S hG hE) rfl rfl hl.1 rfl (lv_room (Nat.le_of_ble_eq_true rfl)) dX9_book_3 ⟨Nat.le_of_ble_eq_true rfl, Nat.le_of_ble_eq_true rfl⟩)) hS (fun _ h => h) (fun r_1 H locs hp_2 hG hS o_3 => ?_)
  rcases hp_2 with ⟨rfl, hc_146⟩ | ⟨rfl, hc_147, hc_148⟩
  · skip
    refine lv_if_eq (tgt := 13) hx hb dX9_book_6 (by decide) (fun q => absurd q (by decide)) (fun _ => ?_)
    refine lv_ldc2 hx hb hown (hts (.constantLong RX9 158 (-1)) (List.mem_of_getElem? (i := 4) rfl)) dX9_book_9 ?_
    exact ty_lret hx hb hr hlk hG hS True.intro dX9_book_12
  · skip
    refine lv_pc (pc2 := 6) rfl ?_
    refine lv_if_eq (tgt := 13) hx hb dX9_book_6 (by decide) (fun _ => ?_) (fun q => absurd (by decide) q)
    refine lv_aload_n hx hb dX9_book_13 rfl (lv_at hl 0 rfl) ?_
    obtain ⟨r_4, r_6, r_8, r_10, v_12, v_13, r_14, r_16, r_18, r_20, r_22, r_24, r_26, v_28, r_30, r_32, r_34, r_36, at_38, h_5, h_7, h_9, h_11, h_15, h_17, h_19, h_21, h_23, h_25, h_27, h_29, h_31, h_33, h_35, h_37⟩ := gF_o1 hG k_a0
    refine va_get (D := D) (ci := 8) (v := .int v_12) (C := RX9) (T := TX9) (N := 18) hx hb hts in9 hown hK (va_one at_38) 0 rfl rfl 4 (by decide) (hts (.fieldLink RX9 29 "RiverModel" "isBuilt" "Z") (List.mem_of_getElem? (i := 5) rfl)) (fun _ h9 => h9) rfl dX9_book_14 ?_
    refine lv_if_ne (tgt := 24) hx hb dX9_book_17 (by decide) (fun c_39 => ?_) (fun c_39 => ?_)
    · skip
      have c_39 : v_12.toInt ≠ 0 := q_ne c_39
      refine lv_iload_n hx hb dX9_book_24 rfl (lv_at hl 1 rfl) ?_
      by_cases k_40 : a1.toInt = 0
      · refine lv_tableIn (tgt := 60) hx hb dX9_book_25 (by rw [k_40]; decide) (by rw [k_40]; decide) (by rw [k_40]; rfl) (by decide) ?_
        refine lv_aload_n hx hb dX9_book_60 rfl (lv_at hl 0 rfl) ?_
        refine va_get (D := D) (ci := 8) (v := .ref r_20) (C := RX9) (T := TX9) (N := 18) hx hb hts in9 hown hK (va_one at_38) 0 rfl rfl 9 (by decide) (hts (.fieldLink RX9 53 "RiverModel" "now" "LRiverModel$Course;") (List.mem_of_getElem? (i := 6) rfl)) (fun _ h9 => h9) rfl dX9_book_61 ?_
        refine lv_pc (pc2 := 64) rfl ?_
        obtain ⟨r_41, r_43, r_45, r_47, v_49, v_50, v_51, v_52, at_54, h_42, h_44, h_46, h_48, h_53⟩ := gF_o5 hG h_21
        refine va_get (D := D) (ci := 0) (v := .long v_49) (C := RX0) (T := TX0) (N := 8) hx hb hts in0 hown hK (va_one at_54) 0 rfl rfl 4 (by decide) (hts (.fieldLink RX9 185 "RiverModel$Course" "rained" "J") (List.mem_of_getElem? (i := 7) rfl)) (fun _ h9 => h9) rfl dX9_book_64 ?_
        exact ty_lret hx hb hr hlk hG hS True.intro dX9_book_67
      by_cases k_55 : a1.toInt = 1
      · refine lv_tableIn (tgt := 68) hx hb dX9_book_25 (by rw [k_55]; decide) (by rw [k_55]; decide) (by rw [k_55]; rfl) (by decide) ?_
        refine lv_aload_n hx hb dX9_book_68 rfl (lv_at hl 0 rfl) ?_
        refine va_get (D := D) (ci := 8) (v := .ref r_20) (C := RX9) (T := TX9) (N := 18) hx hb hts in9 hown hK (va_one at_38) 0 rfl rfl 9 (by decide) (hts (.fieldLink RX9 53 "RiverModel" "now" "LRiverModel$Course;") (List.mem_of_getElem? (i := 6) rfl)) (fun _ h9 => h9) rfl dX9_book_69 ?_
        obtain ⟨r_56, r_58, r_60, r_62, v_64, v_65, v_66, v_67, at_69, h_57, h_59, h_61, h_63, h_68⟩ := gF_o5 hG h_21
        refine va_get (D := D) (ci := 0) (v := .long v_65) (C := RX0) (T := TX0) (N := 8) hx hb hts in0 hown hK (va_one at_69) 0 rfl rfl 5 (by decide) (hts (.fieldLink RX9 189 "RiverModel$Course" "air" "J") (List.mem_of_getElem? (i := 8) rfl)) (fun _ h9 => h9) rfl dX9_book_72 ?_
        exact ty_lret hx hb hr hlk hG hS True.intro dX9_book_75
      by_cases k_70 : a1.toInt = 2
      · refine lv_tableIn (tgt := 76) hx hb dX9_book_25 (by rw [k_70]; decide) (by rw [k_70]; decide) (by rw [k_70]; rfl) (by decide) ?_
        refine lv_aload_n hx hb dX9_book_76 rfl (lv_at hl 0 rfl) ?_
        refine va_get (D := D) (ci := 8) (v := .ref r_20) (C := RX9) (T := TX9) (N := 18) hx hb hts in9 hown hK (va_one at_38) 0 rfl rfl 9 (by decide) (hts (.fieldLink RX9 53 "RiverModel" "now" "LRiverModel$Course;") (List.mem_of_getElem? (i := 6) rfl)) (fun _ h9 => h9) rfl dX9_book_77 ?_
        refine lv_pc (pc2 := 80) rfl ?_
        obtain ⟨r_71, r_73, r_75, r_77, v_79, v_80, v_81, v_82, at_84, h_72, h_74, h_76, h_78, h_83⟩ := gF_o5 hG h_21
        refine va_get (D := D) (ci := 0) (v := .long v_81) (C := RX0) (T := TX0) (N := 8) hx hb hts in0 hown hK (va_one at_84) 0 rfl rfl 6 (by decide) (hts (.fieldLink RX9 192 "RiverModel$Course" "sea" "J") (List.mem_of_getElem? (i := 9) rfl)) (fun _ h9 => h9) rfl dX9_book_80 ?_
        exact ty_lret hx hb hr hlk hG hS True.intro dX9_book_83
      by_cases k_85 : a1.toInt = 3
      · refine lv_tableIn (tgt := 84) hx hb dX9_book_25 (by rw [k_85]; decide) (by rw [k_85]; decide) (by rw [k_85]; rfl) (by decide) ?_
        refine lv_aload_n hx hb dX9_book_84 rfl (lv_at hl 0 rfl) ?_
        refine va_get (D := D) (ci := 8) (v := .ref r_20) (C := RX9) (T := TX9) (N := 18) hx hb hts in9 hown hK (va_one at_38) 0 rfl rfl 9 (by decide) (hts (.fieldLink RX9 53 "RiverModel" "now" "LRiverModel$Course;") (List.mem_of_getElem? (i := 6) rfl)) (fun _ h9 => h9) rfl dX9_book_85 ?_
        obtain ⟨r_86, r_88, r_90, r_92, v_94, v_95, v_96, v_97, at_99, h_87, h_89, h_91, h_93, h_98⟩ := gF_o5 hG h_21
        refine ty_calll ((W.runV (As := []) (rest := []) ⟨hx, hb, hml, hown, hts⟩ (s_X0_heldByAll l D t cI cL cC gC gE G gW gA r_20 h_21) (cwV 0 hts gu_X9_book_X0_heldByAll_195 rfl rfl rfl (by decide +kernel) ⟨Nat.le_of_ble_eq_true rfl, Nat.le_of_ble_eq_true rfl⟩) (tP_V hG hE at_99 rfl) rfl rfl hl.1 rfl (lv_room (Nat.le_of_ble_eq_true rfl)) dX9_book_88 ⟨Nat.le_of_ble_eq_true rfl, Nat.le_of_ble_eq_true rfl⟩)) hS (fun _ h => h) (fun z_100 H locs hp_101 hG hS o_102 => ?_)
        have at_38 := va_at.keptC at_38 o_102 k_a0 rfl
        have at_99 := va_at.keptC at_99 o_102 h_21 rfl
        exact ty_lret hx hb hr hlk hG hS True.intro dX9_book_91
      by_cases k_103 : a1.toInt = 4
      · refine lv_tableIn (tgt := 92) hx hb dX9_book_25 (by rw [k_103]; decide) (by rw [k_103]; decide) (by rw [k_103]; rfl) (by decide) ?_
        refine lv_aload_n hx hb dX9_book_92 rfl (lv_at hl 0 rfl) ?_
        refine va_get (D := D) (ci := 8) (v := .ref r_20) (C := RX9) (T := TX9) (N := 18) hx hb hts in9 hown hK (va_one at_38) 0 rfl rfl 9 (by decide) (hts (.fieldLink RX9 53 "RiverModel" "now" "LRiverModel$Course;") (List.mem_of_getElem? (i := 6) rfl)) (fun _ h9 => h9) rfl dX9_book_93 ?_
        refine lv_pc (pc2 := 96) rfl ?_
        obtain ⟨r_104, r_106, r_108, r_110, v_112, v_113, v_114, v_115, at_117, h_105, h_107, h_109, h_111, h_116⟩ := gF_o5 hG h_21
        refine ty_calll ((W.runV (As := []) (rest := []) ⟨hx, hb, hml, hown, hts⟩ (s_X0_underWayToAll l D t cI cL cC gC gE G gW gA r_20 h_21) (cwV 0 hts gu_X9_book_X0_underWayToAll_199 rfl rfl rfl (by decide +kernel) ⟨Nat.le_of_ble_eq_true rfl, Nat.le_of_ble_eq_true rfl⟩) (tP_V hG hE at_117 rfl) rfl rfl hl.1 rfl (lv_room (Nat.le_of_ble_eq_true rfl)) dX9_book_96 ⟨Nat.le_of_ble_eq_true rfl, Nat.le_of_ble_eq_true rfl⟩)) hS (fun _ h => h) (fun z_118 H locs hp_119 hG hS o_120 => ?_)
        have at_38 := va_at.keptC at_38 o_120 k_a0 rfl
        have at_117 := va_at.keptC at_117 o_120 h_21 rfl
        exact ty_lret hx hb hr hlk hG hS True.intro dX9_book_99
      refine lv_tableOut (tgt := 100) hx hb dX9_book_25 (by omega) (by decide) ?_
      refine lv_aload_n hx hb dX9_book_100 rfl (lv_at hl 0 rfl) ?_
      refine va_get (D := D) (ci := 8) (v := .ref r_6) (C := RX9) (T := TX9) (N := 18) hx hb hts in9 hown hK (va_one at_38) 0 rfl rfl 1 (by decide) (hts (.fieldLink RX9 19 "RiverModel" "model" "LRiverModel$Model;") (List.mem_of_getElem? (i := 17) rfl)) (fun _ h9 => h9) rfl dX9_book_101 ?_
      obtain ⟨r_121, r_123, r_125, v_127, v_128, v_129, at_131, h_122, h_124, h_126, h_130⟩ := gF_o3 hG h_7
      refine ty_calll ((W.runV (As := []) (rest := []) ⟨hx, hb, hml, hown, hts⟩ (s_X4_startOfAll l D t cI cL cC gC gE G gW gA r_6 h_7) (cwV 0 hts gu_X9_book_X4_startOfAll_202 rfl rfl rfl (by decide +kernel) ⟨Nat.le_of_ble_eq_true rfl, Nat.le_of_ble_eq_true rfl⟩) (tP_V hG hE at_131 rfl) rfl rfl hl.1 rfl (lv_room (Nat.le_of_ble_eq_true rfl)) dX9_book_104 ⟨Nat.le_of_ble_eq_true rfl, Nat.le_of_ble_eq_true rfl⟩)) hS (fun _ h => h) (fun z_132 H locs hp_133 hG hS o_134 => ?_)
      have at_38 := va_at.keptC at_38 o_134 k_a0 rfl
      have at_131 := va_at.keptC at_131 o_134 h_7 rfl
      exact ty_lret hx hb hr hlk hG hS True.intro dX9_book_107
    · skip
      have c_39 : v_12.toInt = 0 := q_eq c_39
      refine lv_ldc2 hx hb hown (hts (.constantLong RX9 163 (-2)) (List.mem_of_getElem? (i := 22) rfl)) dX9_book_20 ?_
      exact ty_lret hx hb hr hlk hG hS True.intro dX9_book_23

def uX9_gauge : List Cond := .code yX9_gauge cX9_gauge 4 (some .int) :: ([.methodLink RX9 205 yX9_isNoGauge, .static yX9_isNoGauge, .initialized RX9, .methodLink RX9 99 yX9_isOutside, .static yX9_isOutside, .methodLink RX9 155 yX9_isNoStore, .static yX9_isNoStore, .methodLink RX9 160 yX9_lacksStore, .instanceMethod yX9_lacksStore, .selects RX9 yX9_lacksStore yX9_lacksStore, .fieldLink RX9 74 "RiverModel" "gauges" "LRiverModel$Gauges;", .methodLink RX9 208 yX1_set, .instanceMethod yX1_set, .selects RX1 yX1_set yX1_set, .initialized RX1, .methodLink RX9 131 yX9_lacksItem, .instanceMethod yX9_lacksItem, .selects RX9 yX9_lacksItem yX9_lacksItem, .methodLink RX9 127 yX9_isNoItem, .static yX9_isNoItem, .code yX9_isNoGauge cX9_isNoGauge 1 (some .boolean), .code yX9_isOutside cX9_isOutside 3 (some .boolean), .code yX9_isNoStore cX9_isNoStore 1 (some .boolean), .code yX9_lacksStore cX9_lacksStore 2 (some .boolean), .fieldLink RX9 29 "RiverModel" "isBuilt" "Z", .fieldLink RX9 19 "RiverModel" "model" "LRiverModel$Model;", .methodLink RX9 343 yX4_hasStore, .instanceMethod yX4_hasStore, .selects RX4 yX4_hasStore yX4_hasStore, .initialized RX4, .code yX4_hasStore cX4_hasStore 2 (some .boolean), .fieldLink RX4 15 "RiverModel$Model" "storeItems" "[I", .code yX1_set cX1_set 5 none, .fieldLink RX1 9 "RiverModel$Gauges" "whats" "[I", .fieldLink RX1 15 "RiverModel$Gauges" "places" "[I", .fieldLink RX1 18 "RiverModel$Gauges" "seen" "[I", .code yX9_lacksItem cX9_lacksItem 2 (some .boolean), .fieldLink RX9 124 "RiverModel$Model" "many" "I", .code yX9_isNoItem cX9_isNoItem 1 (some .boolean)] ++ wsX90 ++ wsX40 ++ wsX10)
set_option maxRecDepth 20000 in
theorem gu_X9_gauge_X9_isNoGauge_205 : GoodIn uX9_gauge (va_wsS RX9 205 yX9_isNoGauge uX9_isNoGauge) := goodIn_r _ [1, 2, 3, 21] rfl (by decide +kernel)
set_option maxRecDepth 20000 in
theorem gu_X9_gauge_X9_isOutside_99 : GoodIn uX9_gauge (va_wsS RX9 99 yX9_isOutside uX9_isOutside) := goodIn_r _ [4, 5, 3, 22] rfl (by decide +kernel)
set_option maxRecDepth 20000 in
theorem gu_X9_gauge_X9_isNoStore_155 : GoodIn uX9_gauge (va_wsS RX9 155 yX9_isNoStore uX9_isNoStore) := goodIn_r _ [6, 7, 3, 23] rfl (by decide +kernel)
set_option maxRecDepth 20000 in
theorem gu_X9_gauge_X9_lacksStore_160 : GoodIn uX9_gauge (wsV RX9 160 RX9 yX9_lacksStore uX9_lacksStore) := goodIn_r _ [8, 9, 10, 3, 24, 25, 26, 27, 28, 29, 30, 31, 32, 40, 41, 42, 43, 44, 45, 46, 47, 48, 49, 50, 51, 52, 53, 54, 55, 56, 57, 58, 59, 60, 61, 62, 63] rfl (by decide +kernel)
set_option maxRecDepth 20000 in
theorem gu_X9_gauge_X1_set_208 : GoodIn uX9_gauge (wsV RX9 208 RX1 yX1_set uX1_set) := goodIn_r _ [12, 13, 14, 15, 33, 3, 2, 34, 35, 36, 21, 64, 65, 66, 67] rfl (by decide +kernel)
set_option maxRecDepth 20000 in
theorem gu_X9_gauge_X9_lacksItem_131 : GoodIn uX9_gauge (wsV RX9 131 RX9 yX9_lacksItem uX9_lacksItem) := goodIn_r _ [16, 17, 18, 3, 37, 25, 26, 38, 40, 41, 42, 43, 44, 45, 46, 47, 48, 49, 50, 51, 52, 53, 54, 55, 56, 57, 58, 59, 60, 61, 62, 63] rfl (by decide +kernel)
set_option maxRecDepth 20000 in
theorem gu_X9_gauge_X9_isNoItem_127 : GoodIn uX9_gauge (va_wsS RX9 127 yX9_isNoItem uX9_isNoItem) := goodIn_r _ [19, 20, 3, 39] rfl (by decide +kernel)
set_option maxHeartbeats 4000000 in
set_option maxRecDepth 100000 in
theorem s_X9_gauge (l : Launch) (D : va_G) (t : Nat → Nat) (cI cL cC : ClassId) (gC : Int32) (gE : Int32) (G : Nat) (gW : Nat → Int32) (gA : Nat → Int32) (a0 : Nat) (a1 : Int32) (a2 : Int32) (a3 : Int32) (k_a0 : t a0 = 1) : tM l yX9_gauge uX9_gauge 2 44 D (gF cI cL cC gC gE G gW gA) (gF cI cL cC gC gE G gW gA) t cI cL cC [.ref a0, .int a1, .int a2, .int a3] wrG (pI (fun r => True)) := by
  refine tM.ofW (cc := cX9_gauge) (maxL := 4) (ret := (some .int)) (by decide) rfl (Nat.le_of_ble_eq_true rfl) ?_
  intro p e s m below meth c hx hb hr hml hown hts hlk H locs hG hK hE hS ls hl
  have hl : lv_has ls 4 [(0, .ref a0), (1, .int a1), (2, .int a2), (3, .int a3)] := hl
  have in9 : ∀ w ∈ wsX90, w ∈ uX9_gauge := fun w h => List.mem_cons_of_mem _ (List.mem_append_left _ (List.mem_append_left _ (List.mem_append_right _ h)))
  refine lv_iload_n hx hb dX9_gauge_0 rfl (lv_at hl 1 rfl) ?_
  refine ty_calli ((W.runS (As := [.int a1]) (rest := []) ⟨hx, hb, hml, hown, hts⟩ (s_X9_isNoGauge l D t cI cL cC gC gE G gW gA a1 ) (va_cwS 1 hts gu_X9_gauge_X9_isNoGauge_205 rfl rfl rfl (by decide +kernel) ⟨Nat.le_of_ble_eq_true rfl, Nat.le_of_ble_eq_true rfl⟩) (tP_S hG hE) rfl rfl hl.1 rfl (lv_room (Nat.le_of_ble_eq_true rfl)) dX9_gauge_1 ⟨Nat.le_of_ble_eq_true rfl, Nat.le_of_ble_eq_true rfl⟩)) hS (fun k h => by simp [wr0] at h) (fun r_1 H locs hp_2 hG hS o_3 => ?_)
  rcases hp_2 with ⟨rfl, hc_149⟩ | ⟨rfl, hc_150, hc_151⟩
  · skip
    refine lv_if_ne (tgt := 16) hx hb dX9_gauge_4 (by decide) (fun _ => ?_) (fun q => absurd q (by decide))
    refine lv_iconst (v := (-1)) hx hb dX9_gauge_16 (by decide) ?_
    exact ty_iret hx hb hr hlk hG hS True.intro dX9_gauge_17
  · skip
    refine lv_if_ne (tgt := 16) hx hb dX9_gauge_4 (by decide) (fun q => absurd rfl q) (fun _ => ?_)
    refine lv_iload_n hx hb dX9_gauge_7 rfl (lv_at hl 2 rfl) ?_
    refine lv_pc (pc2 := 8) rfl ?_
    refine lv_iconst (v := 0) hx hb dX9_gauge_8 (by decide) ?_
    refine lv_iconst (v := 1) hx hb dX9_gauge_9 (by decide) ?_
    refine ty_calli ((W.runS (As := [.int a2, .int 0, .int 1]) (rest := []) ⟨hx, hb, hml, hown, hts⟩ (s_X9_isOutside l D t cI cL cC gC gE G gW gA a2 0 1 0 1 (by decide) (by decide) ) (va_cwS 3 hts gu_X9_gauge_X9_isOutside_99 rfl rfl rfl (by decide +kernel) ⟨Nat.le_of_ble_eq_true rfl, Nat.le_of_ble_eq_true rfl⟩) (tP_S hG hE) rfl rfl hl.1 rfl (lv_room (Nat.le_of_ble_eq_true rfl)) dX9_gauge_10 ⟨Nat.le_of_ble_eq_true rfl, Nat.le_of_ble_eq_true rfl⟩)) hS (fun k h => by simp [wr0] at h) (fun r_4 H locs hp_5 hG hS o_6 => ?_)
    rcases hp_5 with ⟨rfl, hc_152⟩ | ⟨rfl, hc_153, hc_154⟩
    · skip
      refine lv_if_eq (tgt := 18) hx hb dX9_gauge_13 (by decide) (fun q => absurd q (by decide)) (fun _ => ?_)
      refine lv_iconst (v := (-1)) hx hb dX9_gauge_16 (by decide) ?_
      exact ty_iret hx hb hr hlk hG hS True.intro dX9_gauge_17
    · skip
      refine lv_if_eq (tgt := 18) hx hb dX9_gauge_13 (by decide) (fun _ => ?_) (fun q => absurd (by decide) q)
      refine lv_iload_n hx hb dX9_gauge_18 rfl (lv_at hl 2 rfl) ?_
      refine lv_pc (pc2 := 19) rfl ?_
      refine lv_if_ne (tgt := 32) hx hb dX9_gauge_19 (by decide) (fun c_7 => ?_) (fun c_7 => ?_)
      · skip
        have c_7 : a2.toInt ≠ 0 := q_ne c_7
        refine lv_iload_n hx hb dX9_gauge_32 rfl (lv_at hl 3 rfl) ?_
        refine ty_calli ((W.runS (As := [.int a3]) (rest := []) ⟨hx, hb, hml, hown, hts⟩ (s_X9_isNoStore l D t cI cL cC gC gE G gW gA a3 ) (va_cwS 1 hts gu_X9_gauge_X9_isNoStore_155 rfl rfl rfl (by decide +kernel) ⟨Nat.le_of_ble_eq_true rfl, Nat.le_of_ble_eq_true rfl⟩) (tP_S hG hE) rfl rfl hl.1 rfl (lv_room (Nat.le_of_ble_eq_true rfl)) dX9_gauge_33 ⟨Nat.le_of_ble_eq_true rfl, Nat.le_of_ble_eq_true rfl⟩)) hS (fun k h => by simp [wr0] at h) (fun r_8 H locs hp_9 hG hS o_10 => ?_)
        rcases hp_9 with ⟨rfl, hc_155⟩ | ⟨rfl, hc_156, hc_157⟩
        · skip
          refine lv_if_eq (tgt := 41) hx hb dX9_gauge_36 (by decide) (fun q => absurd q (by decide)) (fun _ => ?_)
          refine lv_iconst (v := (-1)) hx hb dX9_gauge_39 (by decide) ?_
          exact ty_iret hx hb hr hlk hG hS True.intro dX9_gauge_40
        · skip
          refine lv_if_eq (tgt := 41) hx hb dX9_gauge_36 (by decide) (fun _ => ?_) (fun q => absurd (by decide) q)
          refine lv_iload_n hx hb dX9_gauge_41 rfl (lv_at hl 2 rfl) ?_
          refine lv_pc (pc2 := 42) rfl ?_
          refine lv_if_ne (tgt := 56) hx hb dX9_gauge_42 (by decide) (fun c_11 => ?_) (fun c_11 => ?_)
          · skip
            have c_11 : a2.toInt ≠ 0 := q_ne c_11
            refine lv_aload_n hx hb dX9_gauge_56 rfl (lv_at hl 0 rfl) ?_
            refine lv_iload_n hx hb dX9_gauge_57 rfl (lv_at hl 3 rfl) ?_
            obtain ⟨r_12, r_14, r_16, r_18, v_20, v_21, r_22, r_24, r_26, r_28, r_30, r_32, r_34, v_36, r_38, r_40, r_42, r_44, at_46, h_13, h_15, h_17, h_19, h_23, h_25, h_27, h_29, h_31, h_33, h_35, h_37, h_39, h_41, h_43, h_45⟩ := gF_o1 hG k_a0
            refine ty_calli ((W.runV (As := [.int a3]) (rest := []) ⟨hx, hb, hml, hown, hts⟩ (s_X9_lacksStore l D t cI cL cC gC gE G gW gA a0 a3 k_a0) (cwV 1 hts gu_X9_gauge_X9_lacksStore_160 rfl rfl rfl (by decide +kernel) ⟨Nat.le_of_ble_eq_true rfl, Nat.le_of_ble_eq_true rfl⟩) (tP_V hG hE at_46 rfl) rfl rfl hl.1 rfl (lv_room (Nat.le_of_ble_eq_true rfl)) dX9_gauge_58 ⟨Nat.le_of_ble_eq_true rfl, Nat.le_of_ble_eq_true rfl⟩)) hS (fun k h => by simp [wr0] at h) (fun r_47 H locs hp_48 hG hS o_49 => ?_)
            have at_46 := va_at.keptC at_46 o_49 k_a0 rfl
            rcases hp_48 with rfl | rfl
            · skip
              refine lv_if_eq (tgt := 67) hx hb dX9_gauge_61 (by decide) (fun _ => ?_) (fun q => absurd (by decide) q)
              refine lv_aload_n hx hb dX9_gauge_67 rfl (lv_at hl 0 rfl) ?_
              refine va_get (D := D) (ci := 8) (v := .ref r_38) (C := RX9) (T := TX9) (N := 18) hx hb hts in9 hown hK (va_one at_46) 0 rfl rfl 14 (by decide) (hts (.fieldLink RX9 74 "RiverModel" "gauges" "LRiverModel$Gauges;") (List.mem_of_getElem? (i := 11) rfl)) (fun _ h9 => h9) rfl dX9_gauge_68 ?_
              refine lv_iload_n hx hb dX9_gauge_71 rfl (lv_at hl 1 rfl) ?_
              refine lv_pc (pc2 := 72) rfl ?_
              refine lv_iload_n hx hb dX9_gauge_72 rfl (lv_at hl 2 rfl) ?_
              refine lv_iload_n hx hb dX9_gauge_73 rfl (lv_at hl 3 rfl) ?_
              obtain ⟨r_50, r_52, r_54, at_56, h_51, h_53, h_55⟩ := gF_o6 hG h_39
              refine ty_callv ((W.runV (As := [.int a1, .int a2, .int a3]) (rest := []) ⟨hx, hb, hml, hown, hts⟩ (s_X1_set l D t cI cL cC gC gE G gW gA r_38 a1 a2 a3 h_39) (cwV 3 hts gu_X9_gauge_X1_set_208 rfl rfl rfl (by decide +kernel) ⟨Nat.le_of_ble_eq_true rfl, Nat.le_of_ble_eq_true rfl⟩) (tP_V hG hE at_56 rfl) rfl rfl hl.1 rfl (lv_room (Nat.le_of_ble_eq_true rfl)) dX9_gauge_74 ⟨Nat.le_of_ble_eq_true rfl, Nat.le_of_ble_eq_true rfl⟩)) hS (fun _ h => h) (fun H locs hp_58 hG hS o_59 => ?_)
              have at_46 := va_at.keptC at_46 o_59 k_a0 rfl
              refine lv_iconst (v := 0) hx hb dX9_gauge_77 (by decide) ?_
              exact ty_iret hx hb hr hlk hG hS True.intro dX9_gauge_78
            · skip
              refine lv_if_eq (tgt := 67) hx hb dX9_gauge_61 (by decide) (fun q => absurd q (by decide)) (fun _ => ?_)
              refine lv_bipush (v := (-2)) hx hb dX9_gauge_64 (by decide) ?_
              exact ty_iret hx hb hr hlk hG hS True.intro dX9_gauge_66
          · skip
            have c_11 : a2.toInt = 0 := q_eq c_11
            refine lv_pc (pc2 := 45) rfl ?_
            refine lv_aload_n hx hb dX9_gauge_45 rfl (lv_at hl 0 rfl) ?_
            refine lv_iload_n hx hb dX9_gauge_46 rfl (lv_at hl 3 rfl) ?_
            obtain ⟨r_60, r_62, r_64, r_66, v_68, v_69, r_70, r_72, r_74, r_76, r_78, r_80, r_82, v_84, r_86, r_88, r_90, r_92, at_94, h_61, h_63, h_65, h_67, h_71, h_73, h_75, h_77, h_79, h_81, h_83, h_85, h_87, h_89, h_91, h_93⟩ := gF_o1 hG k_a0
            refine ty_calli ((W.runV (As := [.int a3]) (rest := []) ⟨hx, hb, hml, hown, hts⟩ (s_X9_lacksItem l D t cI cL cC gC gE G gW gA a0 a3 k_a0) (cwV 1 hts gu_X9_gauge_X9_lacksItem_131 rfl rfl rfl (by decide +kernel) ⟨Nat.le_of_ble_eq_true rfl, Nat.le_of_ble_eq_true rfl⟩) (tP_V hG hE at_94 rfl) rfl rfl hl.1 rfl (lv_room (Nat.le_of_ble_eq_true rfl)) dX9_gauge_47 ⟨Nat.le_of_ble_eq_true rfl, Nat.le_of_ble_eq_true rfl⟩)) hS (fun k h => by simp [wr0] at h) (fun r_95 H locs hp_96 hG hS o_97 => ?_)
            have at_94 := va_at.keptC at_94 o_97 k_a0 rfl
            rcases hp_96 with rfl | rfl
            · skip
              refine lv_if_eq (tgt := 67) hx hb dX9_gauge_50 (by decide) (fun _ => ?_) (fun q => absurd (by decide) q)
              refine lv_aload_n hx hb dX9_gauge_67 rfl (lv_at hl 0 rfl) ?_
              refine va_get (D := D) (ci := 8) (v := .ref r_86) (C := RX9) (T := TX9) (N := 18) hx hb hts in9 hown hK (va_one at_94) 0 rfl rfl 14 (by decide) (hts (.fieldLink RX9 74 "RiverModel" "gauges" "LRiverModel$Gauges;") (List.mem_of_getElem? (i := 11) rfl)) (fun _ h9 => h9) rfl dX9_gauge_68 ?_
              refine lv_iload_n hx hb dX9_gauge_71 rfl (lv_at hl 1 rfl) ?_
              refine lv_iload_n hx hb dX9_gauge_72 rfl (lv_at hl 2 rfl) ?_
              refine lv_pc (pc2 := 73) rfl ?_
              refine lv_iload_n hx hb dX9_gauge_73 rfl (lv_at hl 3 rfl) ?_
              obtain ⟨r_98, r_100, r_102, at_104, h_99, h_101, h_103⟩ := gF_o6 hG h_87
              refine ty_callv ((W.runV (As := [.int a1, .int a2, .int a3]) (rest := []) ⟨hx, hb, hml, hown, hts⟩ (s_X1_set l D t cI cL cC gC gE G gW gA r_86 a1 a2 a3 h_87) (cwV 3 hts gu_X9_gauge_X1_set_208 rfl rfl rfl (by decide +kernel) ⟨Nat.le_of_ble_eq_true rfl, Nat.le_of_ble_eq_true rfl⟩) (tP_V hG hE at_104 rfl) rfl rfl hl.1 rfl (lv_room (Nat.le_of_ble_eq_true rfl)) dX9_gauge_74 ⟨Nat.le_of_ble_eq_true rfl, Nat.le_of_ble_eq_true rfl⟩)) hS (fun _ h => h) (fun H locs hp_106 hG hS o_107 => ?_)
              have at_94 := va_at.keptC at_94 o_107 k_a0 rfl
              refine lv_iconst (v := 0) hx hb dX9_gauge_77 (by decide) ?_
              exact ty_iret hx hb hr hlk hG hS True.intro dX9_gauge_78
            · skip
              refine lv_if_eq (tgt := 67) hx hb dX9_gauge_50 (by decide) (fun q => absurd q (by decide)) (fun _ => ?_)
              refine lv_goto (tgt := 64) hx hb dX9_gauge_53 (by decide) ?_
              refine lv_bipush (v := (-2)) hx hb dX9_gauge_64 (by decide) ?_
              exact ty_iret hx hb hr hlk hG hS True.intro dX9_gauge_66
      · skip
        have c_7 : a2.toInt = 0 := q_eq c_7
        refine lv_pc (pc2 := 22) rfl ?_
        refine lv_iload_n hx hb dX9_gauge_22 rfl (lv_at hl 3 rfl) ?_
        refine ty_calli ((W.runS (As := [.int a3]) (rest := []) ⟨hx, hb, hml, hown, hts⟩ (s_X9_isNoItem l D t cI cL cC gC gE G gW gA a3 ) (va_cwS 1 hts gu_X9_gauge_X9_isNoItem_127 rfl rfl rfl (by decide +kernel) ⟨Nat.le_of_ble_eq_true rfl, Nat.le_of_ble_eq_true rfl⟩) (tP_S hG hE) rfl rfl hl.1 rfl (lv_room (Nat.le_of_ble_eq_true rfl)) dX9_gauge_23 ⟨Nat.le_of_ble_eq_true rfl, Nat.le_of_ble_eq_true rfl⟩)) hS (fun k h => by simp [wr0] at h) (fun r_108 H locs hp_109 hG hS o_110 => ?_)
        rcases hp_109 with ⟨rfl, hc_158⟩ | ⟨rfl, hc_159, hc_160⟩
        · skip
          refine lv_if_eq (tgt := 41) hx hb dX9_gauge_26 (by decide) (fun q => absurd q (by decide)) (fun _ => ?_)
          refine lv_goto (tgt := 39) hx hb dX9_gauge_29 (by decide) ?_
          refine lv_iconst (v := (-1)) hx hb dX9_gauge_39 (by decide) ?_
          exact ty_iret hx hb hr hlk hG hS True.intro dX9_gauge_40
        · skip
          refine lv_if_eq (tgt := 41) hx hb dX9_gauge_26 (by decide) (fun _ => ?_) (fun q => absurd (by decide) q)
          refine lv_iload_n hx hb dX9_gauge_41 rfl (lv_at hl 2 rfl) ?_
          refine lv_pc (pc2 := 42) rfl ?_
          refine lv_if_ne (tgt := 56) hx hb dX9_gauge_42 (by decide) (fun c_111 => ?_) (fun c_111 => ?_)
          · skip
            have c_111 : a2.toInt ≠ 0 := q_ne c_111
            refine lv_aload_n hx hb dX9_gauge_56 rfl (lv_at hl 0 rfl) ?_
            refine lv_iload_n hx hb dX9_gauge_57 rfl (lv_at hl 3 rfl) ?_
            obtain ⟨r_112, r_114, r_116, r_118, v_120, v_121, r_122, r_124, r_126, r_128, r_130, r_132, r_134, v_136, r_138, r_140, r_142, r_144, at_146, h_113, h_115, h_117, h_119, h_123, h_125, h_127, h_129, h_131, h_133, h_135, h_137, h_139, h_141, h_143, h_145⟩ := gF_o1 hG k_a0
            refine ty_calli ((W.runV (As := [.int a3]) (rest := []) ⟨hx, hb, hml, hown, hts⟩ (s_X9_lacksStore l D t cI cL cC gC gE G gW gA a0 a3 k_a0) (cwV 1 hts gu_X9_gauge_X9_lacksStore_160 rfl rfl rfl (by decide +kernel) ⟨Nat.le_of_ble_eq_true rfl, Nat.le_of_ble_eq_true rfl⟩) (tP_V hG hE at_146 rfl) rfl rfl hl.1 rfl (lv_room (Nat.le_of_ble_eq_true rfl)) dX9_gauge_58 ⟨Nat.le_of_ble_eq_true rfl, Nat.le_of_ble_eq_true rfl⟩)) hS (fun k h => by simp [wr0] at h) (fun r_147 H locs hp_148 hG hS o_149 => ?_)
            have at_146 := va_at.keptC at_146 o_149 k_a0 rfl
            rcases hp_148 with rfl | rfl
            · skip
              refine lv_if_eq (tgt := 67) hx hb dX9_gauge_61 (by decide) (fun _ => ?_) (fun q => absurd (by decide) q)
              refine lv_aload_n hx hb dX9_gauge_67 rfl (lv_at hl 0 rfl) ?_
              refine va_get (D := D) (ci := 8) (v := .ref r_138) (C := RX9) (T := TX9) (N := 18) hx hb hts in9 hown hK (va_one at_146) 0 rfl rfl 14 (by decide) (hts (.fieldLink RX9 74 "RiverModel" "gauges" "LRiverModel$Gauges;") (List.mem_of_getElem? (i := 11) rfl)) (fun _ h9 => h9) rfl dX9_gauge_68 ?_
              refine lv_iload_n hx hb dX9_gauge_71 rfl (lv_at hl 1 rfl) ?_
              refine lv_pc (pc2 := 72) rfl ?_
              refine lv_iload_n hx hb dX9_gauge_72 rfl (lv_at hl 2 rfl) ?_
              refine lv_iload_n hx hb dX9_gauge_73 rfl (lv_at hl 3 rfl) ?_
              obtain ⟨r_150, r_152, r_154, at_156, h_151, h_153, h_155⟩ := gF_o6 hG h_139
              refine ty_callv ((W.runV (As := [.int a1, .int a2, .int a3]) (rest := []) ⟨hx, hb, hml, hown, hts⟩ (s_X1_set l D t cI cL cC gC gE G gW gA r_138 a1 a2 a3 h_139) (cwV 3 hts gu_X9_gauge_X1_set_208 rfl rfl rfl (by decide +kernel) ⟨Nat.le_of_ble_eq_true rfl, Nat.le_of_ble_eq_true rfl⟩) (tP_V hG hE at_156 rfl) rfl rfl hl.1 rfl (lv_room (Nat.le_of_ble_eq_true rfl)) dX9_gauge_74 ⟨Nat.le_of_ble_eq_true rfl, Nat.le_of_ble_eq_true rfl⟩)) hS (fun _ h => h) (fun H locs hp_158 hG hS o_159 => ?_)
              have at_146 := va_at.keptC at_146 o_159 k_a0 rfl
              refine lv_iconst (v := 0) hx hb dX9_gauge_77 (by decide) ?_
              exact ty_iret hx hb hr hlk hG hS True.intro dX9_gauge_78
            · skip
              refine lv_if_eq (tgt := 67) hx hb dX9_gauge_61 (by decide) (fun q => absurd q (by decide)) (fun _ => ?_)
              refine lv_bipush (v := (-2)) hx hb dX9_gauge_64 (by decide) ?_
              exact ty_iret hx hb hr hlk hG hS True.intro dX9_gauge_66
          · skip
            have c_111 : a2.toInt = 0 := q_eq c_111
            refine lv_pc (pc2 := 45) rfl ?_
            refine lv_aload_n hx hb dX9_gauge_45 rfl (lv_at hl 0 rfl) ?_
            refine lv_iload_n hx hb dX9_gauge_46 rfl (lv_at hl 3 rfl) ?_
            obtain ⟨r_160, r_162, r_164, r_166, v_168, v_169, r_170, r_172, r_174, r_176, r_178, r_180, r_182, v_184, r_186, r_188, r_190, r_192, at_194, h_161, h_163, h_165, h_167, h_171, h_173, h_175, h_177, h_179, h_181, h_183, h_185, h_187, h_189, h_191, h_193⟩ := gF_o1 hG k_a0
            refine ty_calli ((W.runV (As := [.int a3]) (rest := []) ⟨hx, hb, hml, hown, hts⟩ (s_X9_lacksItem l D t cI cL cC gC gE G gW gA a0 a3 k_a0) (cwV 1 hts gu_X9_gauge_X9_lacksItem_131 rfl rfl rfl (by decide +kernel) ⟨Nat.le_of_ble_eq_true rfl, Nat.le_of_ble_eq_true rfl⟩) (tP_V hG hE at_194 rfl) rfl rfl hl.1 rfl (lv_room (Nat.le_of_ble_eq_true rfl)) dX9_gauge_47 ⟨Nat.le_of_ble_eq_true rfl, Nat.le_of_ble_eq_true rfl⟩)) hS (fun k h => by simp [wr0] at h) (fun r_195 H locs hp_196 hG hS o_197 => ?_)
            have at_194 := va_at.keptC at_194 o_197 k_a0 rfl
            rcases hp_196 with rfl | rfl
            · skip
              refine lv_if_eq (tgt := 67) hx hb dX9_gauge_50 (by decide) (fun _ => ?_) (fun q => absurd (by decide) q)
              refine lv_aload_n hx hb dX9_gauge_67 rfl (lv_at hl 0 rfl) ?_
              refine va_get (D := D) (ci := 8) (v := .ref r_186) (C := RX9) (T := TX9) (N := 18) hx hb hts in9 hown hK (va_one at_194) 0 rfl rfl 14 (by decide) (hts (.fieldLink RX9 74 "RiverModel" "gauges" "LRiverModel$Gauges;") (List.mem_of_getElem? (i := 11) rfl)) (fun _ h9 => h9) rfl dX9_gauge_68 ?_
              refine lv_iload_n hx hb dX9_gauge_71 rfl (lv_at hl 1 rfl) ?_
              refine lv_iload_n hx hb dX9_gauge_72 rfl (lv_at hl 2 rfl) ?_
              refine lv_pc (pc2 := 73) rfl ?_
              refine lv_iload_n hx hb dX9_gauge_73 rfl (lv_at hl 3 rfl) ?_
              obtain ⟨r_198, r_200, r_202, at_204, h_199, h_201, h_203⟩ := gF_o6 hG h_187
              refine ty_callv ((W.runV (As := [.int a1, .int a2, .int a3]) (rest := []) ⟨hx, hb, hml, hown, hts⟩ (s_X1_set l D t cI cL cC gC gE G gW gA r_186 a1 a2 a3 h_187) (cwV 3 hts gu_X9_gauge_X1_set_208 rfl rfl rfl (by decide +kernel) ⟨Nat.le_of_ble_eq_true rfl, Nat.le_of_ble_eq_true rfl⟩) (tP_V hG hE at_204 rfl) rfl rfl hl.1 rfl (lv_room (Nat.le_of_ble_eq_true rfl)) dX9_gauge_74 ⟨Nat.le_of_ble_eq_true rfl, Nat.le_of_ble_eq_true rfl⟩)) hS (fun _ h => h) (fun H locs hp_206 hG hS o_207 => ?_)
              have at_194 := va_at.keptC at_194 o_207 k_a0 rfl
              refine lv_iconst (v := 0) hx hb dX9_gauge_77 (by decide) ?_
              exact ty_iret hx hb hr hlk hG hS True.intro dX9_gauge_78
            · skip
              refine lv_if_eq (tgt := 67) hx hb dX9_gauge_50 (by decide) (fun q => absurd q (by decide)) (fun _ => ?_)
              refine lv_goto (tgt := 64) hx hb dX9_gauge_53 (by decide) ?_
              refine lv_bipush (v := (-2)) hx hb dX9_gauge_64 (by decide) ?_
              exact ty_iret hx hb hr hlk hG hS True.intro dX9_gauge_66

def uX9_reads : List Cond := .code yX9_reads cX9_reads 2 (some .long) :: ([.methodLink RX9 205 yX9_isNoGauge, .static yX9_isNoGauge, .initialized RX9, .constantLong RX9 158 (-1), .methodLink RX9 212 yX9_lacksGauge, .instanceMethod yX9_lacksGauge, .selects RX9 yX9_lacksGauge yX9_lacksGauge, .fieldLink RX9 53 "RiverModel" "now" "LRiverModel$Course;", .fieldLink RX9 144 "RiverModel$Course" "hours" "I", .fieldLink RX9 74 "RiverModel" "gauges" "LRiverModel$Gauges;", .methodLink RX9 215 yX1_reading, .instanceMethod yX1_reading, .selects RX1 yX1_reading yX1_reading, .initialized RX1, .constantLong RX9 163 (-2), .code yX9_isNoGauge cX9_isNoGauge 1 (some .boolean), .code yX9_lacksGauge cX9_lacksGauge 2 (some .boolean), .fieldLink RX9 29 "RiverModel" "isBuilt" "Z", .methodLink RX9 346 yX1_isSet, .instanceMethod yX1_isSet, .selects RX1 yX1_isSet yX1_isSet, .code yX1_isSet cX1_isSet 2 (some .boolean), .fieldLink RX1 9 "RiverModel$Gauges" "whats" "[I", .code yX1_reading cX1_reading 4 (some .long), .methodLink RX1 35 yX1_isSet, .fieldLink RX1 15 "RiverModel$Gauges" "places" "[I", .static yX9_isNoStore, .fieldLink RX1 50 "RiverModel$Course" "held" "[J", .static yX9_isNoItem, .fieldLink RX1 41 "RiverModel$Course" "moved" "[J", .code yX9_isNoStore cX9_isNoStore 1 (some .boolean), .code yX9_isNoItem cX9_isNoItem 1 (some .boolean)] ++ wsX90 ++ wsX00 ++ wsX10)
set_option maxRecDepth 20000 in
theorem gu_X9_reads_X9_isNoGauge_205 : GoodIn uX9_reads (va_wsS RX9 205 yX9_isNoGauge uX9_isNoGauge) := goodIn_r _ [1, 2, 3, 16] rfl (by decide +kernel)
set_option maxRecDepth 20000 in
theorem gu_X9_reads_X9_lacksGauge_212 : GoodIn uX9_reads (wsV RX9 212 RX9 yX9_lacksGauge uX9_lacksGauge) := goodIn_r _ [5, 6, 7, 3, 17, 18, 10, 19, 20, 21, 14, 22, 23, 33, 34, 35, 36, 37, 38, 39, 40, 41, 42, 43, 44, 45, 46, 47, 48, 49, 50, 59, 60, 61, 62] rfl (by decide +kernel)
set_option maxRecDepth 20000 in
theorem gu_X9_reads_X1_reading_215 : GoodIn uX9_reads (wsV RX9 215 RX1 yX1_reading uX1_reading) := goodIn_r _ [11, 12, 13, 14, 24, 25, 20, 21, 14, 26, 23, 3, 27, 28, 29, 30, 22, 31, 32, 59, 60, 61, 62, 51, 52, 53, 54, 55, 56, 57, 58] rfl (by decide +kernel)
set_option maxHeartbeats 4000000 in
set_option maxRecDepth 100000 in
theorem s_X9_reads (l : Launch) (D : va_G) (t : Nat → Nat) (cI cL cC : ClassId) (gC : Int32) (gE : Int32) (G : Nat) (gW : Nat → Int32) (gA : Nat → Int32) (a0 : Nat) (a1 : Int32) (k_a0 : t a0 = 1) : tM l yX9_reads uX9_reads 2 44 D (gF cI cL cC gC gE G gW gA) (gF cI cL cC gC gE G gW gA) t cI cL cC [.ref a0, .int a1] wr0 (pL (fun r => True)) := by
  refine tM.ofW (cc := cX9_reads) (maxL := 2) (ret := (some .long)) (by decide) rfl (Nat.le_of_ble_eq_true rfl) ?_
  intro p e s m below meth c hx hb hr hml hown hts hlk H locs hG hK hE hS ls hl
  have hl : lv_has ls 2 [(0, .ref a0), (1, .int a1)] := hl
  have in9 : ∀ w ∈ wsX90, w ∈ uX9_reads := fun w h => List.mem_cons_of_mem _ (List.mem_append_left _ (List.mem_append_left _ (List.mem_append_right _ h)))
  have in0 : ∀ w ∈ wsX00, w ∈ uX9_reads := fun w h => List.mem_cons_of_mem _ (List.mem_append_left _ (List.mem_append_right _ h))
  refine lv_iload_n hx hb dX9_reads_0 rfl (lv_at hl 1 rfl) ?_
  refine ty_calli ((W.runS (As := [.int a1]) (rest := []) ⟨hx, hb, hml, hown, hts⟩ (s_X9_isNoGauge l D t cI cL cC gC gE G gW gA a1 ) (va_cwS 1 hts gu_X9_reads_X9_isNoGauge_205 rfl rfl rfl (by decide +kernel) ⟨Nat.le_of_ble_eq_true rfl, Nat.le_of_ble_eq_true rfl⟩) (tP_S hG hE) rfl rfl hl.1 rfl (lv_room (Nat.le_of_ble_eq_true rfl)) dX9_reads_1 ⟨Nat.le_of_ble_eq_true rfl, Nat.le_of_ble_eq_true rfl⟩)) hS (fun _ h => h) (fun r_1 H locs hp_2 hG hS o_3 => ?_)
  rcases hp_2 with ⟨rfl, hc_161⟩ | ⟨rfl, hc_162, hc_163⟩
  · skip
    refine lv_if_eq (tgt := 11) hx hb dX9_reads_4 (by decide) (fun q => absurd q (by decide)) (fun _ => ?_)
    refine lv_ldc2 hx hb hown (hts (.constantLong RX9 158 (-1)) (List.mem_of_getElem? (i := 4) rfl)) dX9_reads_7 ?_
    exact ty_lret hx hb hr hlk hG hS True.intro dX9_reads_10
  · skip
    refine lv_if_eq (tgt := 11) hx hb dX9_reads_4 (by decide) (fun _ => ?_) (fun q => absurd (by decide) q)
    refine lv_aload_n hx hb dX9_reads_11 rfl (lv_at hl 0 rfl) ?_
    refine lv_pc (pc2 := 12) rfl ?_
    refine lv_iload_n hx hb dX9_reads_12 rfl (lv_at hl 1 rfl) ?_
    obtain ⟨r_4, r_6, r_8, r_10, v_12, v_13, r_14, r_16, r_18, r_20, r_22, r_24, r_26, v_28, r_30, r_32, r_34, r_36, at_38, h_5, h_7, h_9, h_11, h_15, h_17, h_19, h_21, h_23, h_25, h_27, h_29, h_31, h_33, h_35, h_37⟩ := gF_o1 hG k_a0
    refine ty_calli ((W.runV (As := [.int a1]) (rest := []) ⟨hx, hb, hml, hown, hts⟩ (s_X9_lacksGauge l D t cI cL cC gC gE G gW gA a0 a1 k_a0) (cwV 1 hts gu_X9_reads_X9_lacksGauge_212 rfl rfl rfl (by decide +kernel) ⟨Nat.le_of_ble_eq_true rfl, Nat.le_of_ble_eq_true rfl⟩) (tP_V hG hE at_38 rfl) rfl rfl hl.1 rfl (lv_room (Nat.le_of_ble_eq_true rfl)) dX9_reads_13 ⟨Nat.le_of_ble_eq_true rfl, Nat.le_of_ble_eq_true rfl⟩)) hS (fun _ h => h) (fun r_39 H locs hp_40 hG hS o_41 => ?_)
    have at_38 := va_at.keptC at_38 o_41 k_a0 rfl
    rcases hp_40 with rfl | rfl
    · skip
      refine lv_if_ne (tgt := 29) hx hb dX9_reads_16 (by decide) (fun q => absurd rfl q) (fun _ => ?_)
      refine lv_aload_n hx hb dX9_reads_19 rfl (lv_at hl 0 rfl) ?_
      refine va_get (D := D) (ci := 8) (v := .ref r_20) (C := RX9) (T := TX9) (N := 18) hx hb hts in9 hown hK (va_one at_38) 0 rfl rfl 9 (by decide) (hts (.fieldLink RX9 53 "RiverModel" "now" "LRiverModel$Course;") (List.mem_of_getElem? (i := 8) rfl)) (fun _ h9 => h9) rfl dX9_reads_20 ?_
      obtain ⟨r_42, r_44, r_46, r_48, v_50, v_51, v_52, v_53, at_55, h_43, h_45, h_47, h_49, h_54⟩ := gF_o5 hG h_21
      refine va_get (D := D) (ci := 0) (v := .int v_53) (C := RX0) (T := TX0) (N := 8) hx hb hts in0 hown hK (va_one at_55) 0 rfl rfl 7 (by decide) (hts (.fieldLink RX9 144 "RiverModel$Course" "hours" "I") (List.mem_of_getElem? (i := 9) rfl)) (fun _ h9 => h9) rfl dX9_reads_23 ?_
      refine lv_if_ne (tgt := 35) hx hb dX9_reads_26 (by decide) (fun c_56 => ?_) (fun c_56 => ?_)
      · skip
        have c_56 : v_53.toInt ≠ 0 := q_ne c_56
        refine lv_aload_n hx hb dX9_reads_35 rfl (lv_at hl 0 rfl) ?_
        refine lv_pc (pc2 := 36) rfl ?_
        refine va_get (D := D) (ci := 8) (v := .ref r_30) (C := RX9) (T := TX9) (N := 18) hx hb hts in9 hown hK (va_one at_38) 0 rfl rfl 14 (by decide) (hts (.fieldLink RX9 74 "RiverModel" "gauges" "LRiverModel$Gauges;") (List.mem_of_getElem? (i := 10) rfl)) (fun _ h9 => h9) rfl dX9_reads_36 ?_
        refine lv_aload_n hx hb dX9_reads_39 rfl (lv_at hl 0 rfl) ?_
        refine va_get (D := D) (ci := 8) (v := .ref r_20) (C := RX9) (T := TX9) (N := 18) hx hb hts in9 hown hK (va_one at_38) 0 rfl rfl 9 (by decide) (hts (.fieldLink RX9 53 "RiverModel" "now" "LRiverModel$Course;") (List.mem_of_getElem? (i := 8) rfl)) (fun _ h9 => h9) rfl dX9_reads_40 ?_
        refine lv_iload_n hx hb dX9_reads_43 rfl (lv_at hl 1 rfl) ?_
        obtain ⟨r_57, r_59, r_61, at_63, h_58, h_60, h_62⟩ := gF_o6 hG h_31
        refine ty_calll ((W.runV (As := [.ref r_20, .int a1]) (rest := []) ⟨hx, hb, hml, hown, hts⟩ (s_X1_reading l D t cI cL cC gC gE G gW gA r_30 r_20 a1 h_31 h_21) (cwV 2 hts gu_X9_reads_X1_reading_215 rfl rfl rfl (by decide +kernel) ⟨Nat.le_of_ble_eq_true rfl, Nat.le_of_ble_eq_true rfl⟩) (tP_V hG hE at_63 rfl) rfl rfl hl.1 rfl (lv_room (Nat.le_of_ble_eq_true rfl)) dX9_reads_44 ⟨Nat.le_of_ble_eq_true rfl, Nat.le_of_ble_eq_true rfl⟩)) hS (fun _ h => h) (fun z_64 H locs hp_65 hG hS o_66 => ?_)
        have at_38 := va_at.keptC at_38 o_66 k_a0 rfl
        have at_55 := va_at.keptC at_55 o_66 h_21 rfl
        have at_63 := va_at.keptC at_63 o_66 h_31 rfl
        exact ty_lret hx hb hr hlk hG hS True.intro dX9_reads_47
      · skip
        have c_56 : v_53.toInt = 0 := q_eq c_56
        refine lv_ldc2 hx hb hown (hts (.constantLong RX9 163 (-2)) (List.mem_of_getElem? (i := 15) rfl)) dX9_reads_29 ?_
        refine lv_goto (tgt := 47) hx hb dX9_reads_32 (by decide) ?_
        refine lv_pc (pc2 := 47) rfl ?_
        exact ty_lret hx hb hr hlk hG hS True.intro dX9_reads_47
    · skip
      refine lv_if_ne (tgt := 29) hx hb dX9_reads_16 (by decide) (fun _ => ?_) (fun q => absurd q (by decide))
      refine lv_ldc2 hx hb hown (hts (.constantLong RX9 163 (-2)) (List.mem_of_getElem? (i := 15) rfl)) dX9_reads_29 ?_
      refine lv_goto (tgt := 47) hx hb dX9_reads_32 (by decide) ?_
      exact ty_lret hx hb hr hlk hG hS True.intro dX9_reads_47

def uX9_see : List Cond := .code yX9_see cX9_see 4 (some .int) :: ([.methodLink RX9 205 yX9_isNoGauge, .static yX9_isNoGauge, .initialized RX9, .methodLink RX9 99 yX9_isOutside, .static yX9_isOutside, .constant RX9 219 (10000000), .methodLink RX9 212 yX9_lacksGauge, .instanceMethod yX9_lacksGauge, .selects RX9 yX9_lacksGauge yX9_lacksGauge, .fieldLink RX9 74 "RiverModel" "gauges" "LRiverModel$Gauges;", .methodLink RX9 220 yX1_putSeen, .instanceMethod yX1_putSeen, .selects RX1 yX1_putSeen yX1_putSeen, .initialized RX1, .code yX9_isNoGauge cX9_isNoGauge 1 (some .boolean), .code yX9_isOutside cX9_isOutside 3 (some .boolean), .code yX9_lacksGauge cX9_lacksGauge 2 (some .boolean), .fieldLink RX9 29 "RiverModel" "isBuilt" "Z", .methodLink RX9 346 yX1_isSet, .instanceMethod yX1_isSet, .selects RX1 yX1_isSet yX1_isSet, .code yX1_isSet cX1_isSet 2 (some .boolean), .fieldLink RX1 9 "RiverModel$Gauges" "whats" "[I", .code yX1_putSeen cX1_putSeen 5 (some .int), .fieldLink RX1 18 "RiverModel$Gauges" "seen" "[I"] ++ wsX90 ++ wsX10)
set_option maxRecDepth 20000 in
theorem gu_X9_see_X9_isNoGauge_205 : GoodIn uX9_see (va_wsS RX9 205 yX9_isNoGauge uX9_isNoGauge) := goodIn_r _ [1, 2, 3, 15] rfl (by decide +kernel)
set_option maxRecDepth 20000 in
theorem gu_X9_see_X9_isOutside_99 : GoodIn uX9_see (va_wsS RX9 99 yX9_isOutside uX9_isOutside) := goodIn_r _ [4, 5, 3, 16] rfl (by decide +kernel)
set_option maxRecDepth 20000 in
theorem gu_X9_see_X9_lacksGauge_212 : GoodIn uX9_see (wsV RX9 212 RX9 yX9_lacksGauge uX9_lacksGauge) := goodIn_r _ [7, 8, 9, 3, 17, 18, 10, 19, 20, 21, 14, 22, 23, 26, 27, 28, 29, 30, 31, 32, 33, 34, 35, 36, 37, 38, 39, 40, 41, 42, 43, 44, 45, 46, 47] rfl (by decide +kernel)
set_option maxRecDepth 20000 in
theorem gu_X9_see_X1_putSeen_220 : GoodIn uX9_see (wsV RX9 220 RX1 yX1_putSeen uX1_putSeen) := goodIn_r _ [11, 12, 13, 14, 24, 3, 2, 5, 25, 15, 16, 44, 45, 46, 47] rfl (by decide +kernel)
set_option maxHeartbeats 4000000 in
set_option maxRecDepth 100000 in
theorem s_X9_see (l : Launch) (D : va_G) (t : Nat → Nat) (cI cL cC : ClassId) (gC : Int32) (gE : Int32) (G : Nat) (gW : Nat → Int32) (gA : Nat → Int32) (a0 : Nat) (a1 : Int32) (a2 : Int32) (a3 : Int32) (k_a0 : t a0 = 1) : tM l yX9_see uX9_see 2 46 D (gF cI cL cC gC gE G gW gA) (gF cI cL cC gC gE G gW gA) t cI cL cC [.ref a0, .int a1, .int a2, .int a3] wrG (pI (fun r => True)) := by
  refine tM.ofW (cc := cX9_see) (maxL := 4) (ret := (some .int)) (by decide) rfl (Nat.le_of_ble_eq_true rfl) ?_
  intro p e s m below meth c hx hb hr hml hown hts hlk H locs hG hK hE hS ls hl
  have hl : lv_has ls 4 [(0, .ref a0), (1, .int a1), (2, .int a2), (3, .int a3)] := hl
  have in9 : ∀ w ∈ wsX90, w ∈ uX9_see := fun w h => List.mem_cons_of_mem _ (List.mem_append_left _ (List.mem_append_right _ h))
  refine lv_iload_n hx hb dX9_see_0 rfl (lv_at hl 1 rfl) ?_
  refine ty_calli ((W.runS (As := [.int a1]) (rest := []) ⟨hx, hb, hml, hown, hts⟩ (s_X9_isNoGauge l D t cI cL cC gC gE G gW gA a1 ) (va_cwS 1 hts gu_X9_see_X9_isNoGauge_205 rfl rfl rfl (by decide +kernel) ⟨Nat.le_of_ble_eq_true rfl, Nat.le_of_ble_eq_true rfl⟩) (tP_S hG hE) rfl rfl hl.1 rfl (lv_room (Nat.le_of_ble_eq_true rfl)) dX9_see_1 ⟨Nat.le_of_ble_eq_true rfl, Nat.le_of_ble_eq_true rfl⟩)) hS (fun k h => by simp [wr0] at h) (fun r_1 H locs hp_2 hG hS o_3 => ?_)
  rcases hp_2 with ⟨rfl, hc_164⟩ | ⟨rfl, hc_165, hc_166⟩
  · skip
    refine lv_if_ne (tgt := 27) hx hb dX9_see_4 (by decide) (fun _ => ?_) (fun q => absurd q (by decide))
    refine lv_bipush (v := (-100)) hx hb dX9_see_27 (by decide) ?_
    exact ty_iret hx hb hr hlk hG hS True.intro dX9_see_29
  · skip
    refine lv_if_ne (tgt := 27) hx hb dX9_see_4 (by decide) (fun q => absurd rfl q) (fun _ => ?_)
    refine lv_iload_n hx hb dX9_see_7 rfl (lv_at hl 2 rfl) ?_
    refine lv_pc (pc2 := 8) rfl ?_
    refine lv_iconst (v := 0) hx hb dX9_see_8 (by decide) ?_
    refine lv_bipush (v := 95) hx hb dX9_see_9 (by decide) ?_
    refine ty_calli ((W.runS (As := [.int a2, .int 0, .int 95]) (rest := []) ⟨hx, hb, hml, hown, hts⟩ (s_X9_isOutside l D t cI cL cC gC gE G gW gA a2 0 95 0 95 (by decide) (by decide) ) (va_cwS 3 hts gu_X9_see_X9_isOutside_99 rfl rfl rfl (by decide +kernel) ⟨Nat.le_of_ble_eq_true rfl, Nat.le_of_ble_eq_true rfl⟩) (tP_S hG hE) rfl rfl hl.1 rfl (lv_room (Nat.le_of_ble_eq_true rfl)) dX9_see_11 ⟨Nat.le_of_ble_eq_true rfl, Nat.le_of_ble_eq_true rfl⟩)) hS (fun k h => by simp [wr0] at h) (fun r_4 H locs hp_5 hG hS o_6 => ?_)
    rcases hp_5 with ⟨rfl, hc_167⟩ | ⟨rfl, hc_168, hc_169⟩
    · skip
      refine lv_if_ne (tgt := 27) hx hb dX9_see_14 (by decide) (fun _ => ?_) (fun q => absurd q (by decide))
      refine lv_bipush (v := (-100)) hx hb dX9_see_27 (by decide) ?_
      exact ty_iret hx hb hr hlk hG hS True.intro dX9_see_29
    · skip
      refine lv_if_ne (tgt := 27) hx hb dX9_see_14 (by decide) (fun q => absurd rfl q) (fun _ => ?_)
      refine lv_iload_n hx hb dX9_see_17 rfl (lv_at hl 3 rfl) ?_
      refine lv_pc (pc2 := 18) rfl ?_
      refine lv_iconst (v := (-1)) hx hb dX9_see_18 (by decide) ?_
      refine lv_ldc hx hb hown (hts (.constant RX9 219 (10000000)) (List.mem_of_getElem? (i := 6) rfl)) dX9_see_19 ?_
      refine ty_calli ((W.runS (As := [.int a3, .int (-1), .int 10000000]) (rest := []) ⟨hx, hb, hml, hown, hts⟩ (s_X9_isOutside l D t cI cL cC gC gE G gW gA a3 (-1) 10000000 (-1) 10000000 (by decide) (by decide) ) (va_cwS 3 hts gu_X9_see_X9_isOutside_99 rfl rfl rfl (by decide +kernel) ⟨Nat.le_of_ble_eq_true rfl, Nat.le_of_ble_eq_true rfl⟩) (tP_S hG hE) rfl rfl hl.1 rfl (lv_room (Nat.le_of_ble_eq_true rfl)) dX9_see_21 ⟨Nat.le_of_ble_eq_true rfl, Nat.le_of_ble_eq_true rfl⟩)) hS (fun k h => by simp [wr0] at h) (fun r_7 H locs hp_8 hG hS o_9 => ?_)
      rcases hp_8 with ⟨rfl, hc_170⟩ | ⟨rfl, hc_171, hc_172⟩
      · skip
        refine lv_if_eq (tgt := 30) hx hb dX9_see_24 (by decide) (fun q => absurd q (by decide)) (fun _ => ?_)
        refine lv_bipush (v := (-100)) hx hb dX9_see_27 (by decide) ?_
        exact ty_iret hx hb hr hlk hG hS True.intro dX9_see_29
      · skip
        refine lv_if_eq (tgt := 30) hx hb dX9_see_24 (by decide) (fun _ => ?_) (fun q => absurd (by decide) q)
        refine lv_aload_n hx hb dX9_see_30 rfl (lv_at hl 0 rfl) ?_
        refine lv_pc (pc2 := 31) rfl ?_
        refine lv_iload_n hx hb dX9_see_31 rfl (lv_at hl 1 rfl) ?_
        obtain ⟨r_10, r_12, r_14, r_16, v_18, v_19, r_20, r_22, r_24, r_26, r_28, r_30, r_32, v_34, r_36, r_38, r_40, r_42, at_44, h_11, h_13, h_15, h_17, h_21, h_23, h_25, h_27, h_29, h_31, h_33, h_35, h_37, h_39, h_41, h_43⟩ := gF_o1 hG k_a0
        refine ty_calli ((W.runV (As := [.int a1]) (rest := []) ⟨hx, hb, hml, hown, hts⟩ (s_X9_lacksGauge l D t cI cL cC gC gE G gW gA a0 a1 k_a0) (cwV 1 hts gu_X9_see_X9_lacksGauge_212 rfl rfl rfl (by decide +kernel) ⟨Nat.le_of_ble_eq_true rfl, Nat.le_of_ble_eq_true rfl⟩) (tP_V hG hE at_44 rfl) rfl rfl hl.1 rfl (lv_room (Nat.le_of_ble_eq_true rfl)) dX9_see_32 ⟨Nat.le_of_ble_eq_true rfl, Nat.le_of_ble_eq_true rfl⟩)) hS (fun k h => by simp [wr0] at h) (fun r_45 H locs hp_46 hG hS o_47 => ?_)
        have at_44 := va_at.keptC at_44 o_47 k_a0 rfl
        rcases hp_46 with rfl | rfl
        · skip
          refine lv_if_eq (tgt := 43) hx hb dX9_see_35 (by decide) (fun _ => ?_) (fun q => absurd (by decide) q)
          refine lv_aload_n hx hb dX9_see_43 rfl (lv_at hl 0 rfl) ?_
          refine va_get (D := D) (ci := 8) (v := .ref r_36) (C := RX9) (T := TX9) (N := 18) hx hb hts in9 hown hK (va_one at_44) 0 rfl rfl 14 (by decide) (hts (.fieldLink RX9 74 "RiverModel" "gauges" "LRiverModel$Gauges;") (List.mem_of_getElem? (i := 10) rfl)) (fun _ h9 => h9) rfl dX9_see_44 ?_
          refine lv_iload_n hx hb dX9_see_47 rfl (lv_at hl 1 rfl) ?_
          refine lv_iload_n hx hb dX9_see_48 rfl (lv_at hl 2 rfl) ?_
          refine lv_iload_n hx hb dX9_see_49 rfl (lv_at hl 3 rfl) ?_
          refine lv_pc (pc2 := 50) rfl ?_
          obtain ⟨r_48, r_50, r_52, at_54, h_49, h_51, h_53⟩ := gF_o6 hG h_37
          refine ty_calli ((W.runV (As := [.int a1, .int a2, .int a3]) (rest := []) ⟨hx, hb, hml, hown, hts⟩ (s_X1_putSeen l D t cI cL cC gC gE G gW gA r_36 a1 a2 a3 h_37) (cwV 3 hts gu_X9_see_X1_putSeen_220 rfl rfl rfl (by decide +kernel) ⟨Nat.le_of_ble_eq_true rfl, Nat.le_of_ble_eq_true rfl⟩) (tP_V hG hE at_54 rfl) rfl rfl hl.1 rfl (lv_room (Nat.le_of_ble_eq_true rfl)) dX9_see_50 ⟨Nat.le_of_ble_eq_true rfl, Nat.le_of_ble_eq_true rfl⟩)) hS (fun _ h => h) (fun r_55 H locs hp_56 hG hS o_57 => ?_)
          have at_44 := va_at.keptC at_44 o_57 k_a0 rfl
          exact ty_iret hx hb hr hlk hG hS True.intro dX9_see_53
        · skip
          refine lv_if_eq (tgt := 43) hx hb dX9_see_35 (by decide) (fun q => absurd q (by decide)) (fun _ => ?_)
          refine lv_bipush (v := (-102)) hx hb dX9_see_38 (by decide) ?_
          refine lv_goto (tgt := 53) hx hb dX9_see_40 (by decide) ?_
          exact ty_iret hx hb hr hlk hG hS True.intro dX9_see_53

def uX9_anew : List Cond := .code yX9_anew cX9_anew 2 (some .int) :: ([.fieldLink RX9 29 "RiverModel" "isBuilt" "Z", .fieldLink RX9 53 "RiverModel" "now" "LRiverModel$Course;", .fieldLink RX9 144 "RiverModel$Course" "hours" "I", .fieldLink RX9 19 "RiverModel" "model" "LRiverModel$Model;", .methodLink RX9 147 yX0_begin, .instanceMethod yX0_begin, .selects RX0 yX0_begin yX0_begin, .initialized RX0, .code yX0_begin cX0_begin 3 none, .fieldLink RX0 15 "RiverModel$Course" "moved" "[J", .methodLink RX0 45 yJ7_fill_d0a16, .static yJ7_fill_d0a16, .initialized RJ7, .fieldLink RX0 18 "RiverModel$Course" "openings" "[I", .methodLink RX0 51 yJ7_fill_53178, .static yJ7_fill_53178, .fieldLink RX0 22 "RiverModel$Course" "due" "[J", .fieldLink RX0 25 "RiverModel$Course" "rained" "J", .fieldLink RX0 29 "RiverModel$Course" "air" "J", .fieldLink RX0 32 "RiverModel$Course" "sea" "J", .fieldLink RX0 35 "RiverModel$Course" "hours" "I", .fieldLink RX0 9 "RiverModel$Course" "held" "[J", .methodLink RX0 39 yX4_startOf, .instanceMethod yX4_startOf, .selects RX4 yX4_startOf yX4_startOf, .initialized RX4, .code yJ7_fill_d0a16 cJ7_fill_d0a16 5 none, .code yJ7_fill_53178 cJ7_fill_53178 4 none, .code yX4_startOf cX4_startOf 2 (some .int), .methodLink RX4 66 yX4_hasStore, .instanceMethod yX4_hasStore, .selects RX4 yX4_hasStore yX4_hasStore, .fieldLink RX4 15 "RiverModel$Model" "storeItems" "[I", .methodLink RX4 73 yX4_cell, .instanceMethod yX4_cell, .selects RX4 yX4_cell yX4_cell, .code yX4_hasStore cX4_hasStore 2 (some .boolean), .code yX4_cell cX4_cell 3 (some .int), .fieldLink RX4 9 "RiverModel$Model" "cells" "[I"] ++ wsX90 ++ wsX00 ++ wsX40)
set_option maxRecDepth 20000 in
theorem gu_X9_anew_X0_begin_147 : GoodIn uX9_anew (wsV RX9 147 RX0 yX0_begin uX0_begin) := goodIn_r _ [5, 6, 7, 8, 9, 10, 11, 12, 13, 14, 15, 16, 17, 18, 19, 20, 21, 22, 23, 24, 25, 26, 27, 28, 29, 30, 31, 32, 33, 34, 35, 36, 37, 38, 39, 58, 59, 60, 61, 62, 63, 64, 65, 66, 67, 68, 69, 70, 71] rfl (by decide +kernel)
set_option maxHeartbeats 4000000 in
set_option maxRecDepth 100000 in
theorem s_X9_anew (l : Launch) (D : va_G) (t : Nat → Nat) (cI cL cC : ClassId) (gC : Int32) (gE : Int32) (G : Nat) (gW : Nat → Int32) (gA : Nat → Int32) (a0 : Nat) (k_a0 : t a0 = 1) : tM l yX9_anew uX9_anew 3 65 D (gF cI cL cC gC gE G gW gA) (gF cI cL cC gC gE G gW gA) t cI cL cC [.ref a0] wrC (pI (fun r => True)) := by
  refine tM.ofW (cc := cX9_anew) (maxL := 2) (ret := (some .int)) (by decide) rfl (Nat.le_of_ble_eq_true rfl) ?_
  intro p e s m below meth c hx hb hr hml hown hts hlk H locs hG hK hE hS ls hl
  have hl : lv_has ls 2 [(0, .ref a0)] := hl
  have in9 : ∀ w ∈ wsX90, w ∈ uX9_anew := fun w h => List.mem_cons_of_mem _ (List.mem_append_left _ (List.mem_append_left _ (List.mem_append_right _ h)))
  have in0 : ∀ w ∈ wsX00, w ∈ uX9_anew := fun w h => List.mem_cons_of_mem _ (List.mem_append_left _ (List.mem_append_right _ h))
  refine lv_aload_n hx hb dX9_anew_0 rfl (lv_at hl 0 rfl) ?_
  obtain ⟨r_1, r_3, r_5, r_7, v_9, v_10, r_11, r_13, r_15, r_17, r_19, r_21, r_23, v_25, r_27, r_29, r_31, r_33, at_35, h_2, h_4, h_6, h_8, h_12, h_14, h_16, h_18, h_20, h_22, h_24, h_26, h_28, h_30, h_32, h_34⟩ := gF_o1 hG k_a0
  refine va_get (D := D) (ci := 8) (v := .int v_9) (C := RX9) (T := TX9) (N := 18) hx hb hts in9 hown hK (va_one at_35) 0 rfl rfl 4 (by decide) (hts (.fieldLink RX9 29 "RiverModel" "isBuilt" "Z") (List.mem_of_getElem? (i := 1) rfl)) (fun _ h9 => h9) rfl dX9_anew_1 ?_
  refine lv_if_ne (tgt := 10) hx hb dX9_anew_4 (by decide) (fun c_36 => ?_) (fun c_36 => ?_)
  · skip
    have c_36 : v_9.toInt ≠ 0 := q_ne c_36
    refine lv_aload_n hx hb dX9_anew_10 rfl (lv_at hl 0 rfl) ?_
    refine va_get (D := D) (ci := 8) (v := .ref r_17) (C := RX9) (T := TX9) (N := 18) hx hb hts in9 hown hK (va_one at_35) 0 rfl rfl 9 (by decide) (hts (.fieldLink RX9 53 "RiverModel" "now" "LRiverModel$Course;") (List.mem_of_getElem? (i := 2) rfl)) (fun _ h9 => h9) rfl dX9_anew_11 ?_
    obtain ⟨r_37, r_39, r_41, r_43, v_45, v_46, v_47, v_48, at_50, h_38, h_40, h_42, h_44, h_49⟩ := gF_o5 hG h_18
    refine va_get (D := D) (ci := 0) (v := .int v_48) (C := RX0) (T := TX0) (N := 8) hx hb hts in0 hown hK (va_one at_50) 0 rfl rfl 7 (by decide) (hts (.fieldLink RX9 144 "RiverModel$Course" "hours" "I") (List.mem_of_getElem? (i := 3) rfl)) (fun _ h9 => h9) rfl dX9_anew_14 ?_
    refine lv_istore_n (lv' := [(1, .int v_48), (0, .ref a0)]) hx hb dX9_anew_17 rfl hl (by decide) rfl (fun ls hl => ?_)
    refine lv_pc (pc2 := 18) rfl ?_
    refine lv_aload_n hx hb dX9_anew_18 rfl (lv_at hl 1 rfl) ?_
    refine va_get (D := D) (ci := 8) (v := .ref r_17) (C := RX9) (T := TX9) (N := 18) hx hb hts in9 hown hK (va_one at_35) 0 rfl rfl 9 (by decide) (hts (.fieldLink RX9 53 "RiverModel" "now" "LRiverModel$Course;") (List.mem_of_getElem? (i := 2) rfl)) (fun _ h9 => h9) rfl dX9_anew_19 ?_
    refine lv_aload_n hx hb dX9_anew_22 rfl (lv_at hl 1 rfl) ?_
    refine va_get (D := D) (ci := 8) (v := .ref r_3) (C := RX9) (T := TX9) (N := 18) hx hb hts in9 hown hK (va_one at_35) 0 rfl rfl 1 (by decide) (hts (.fieldLink RX9 19 "RiverModel" "model" "LRiverModel$Model;") (List.mem_of_getElem? (i := 4) rfl)) (fun _ h9 => h9) rfl dX9_anew_23 ?_
    refine ty_callv ((W.runV (As := [.ref r_3]) (rest := []) ⟨hx, hb, hml, hown, hts⟩ (s_X0_begin l D t cI cL cC gC gE G gW gA r_17 r_3 h_18 h_4) (cwV 1 hts gu_X9_anew_X0_begin_147 rfl rfl rfl (by decide +kernel) ⟨Nat.le_of_ble_eq_true rfl, Nat.le_of_ble_eq_true rfl⟩) (tP_V hG hE at_50 rfl) rfl rfl hl.1 rfl (lv_room (Nat.le_of_ble_eq_true rfl)) dX9_anew_26 ⟨Nat.le_of_ble_eq_true rfl, Nat.le_of_ble_eq_true rfl⟩)) hS (fun _ h => h) (fun H locs hp_52 hG hS o_53 => ?_)
    have at_35 := va_at.keptC at_35 o_53 k_a0 rfl
    refine lv_iload_n hx hb dX9_anew_29 rfl (lv_at hl 0 rfl) ?_
    exact ty_iret hx hb hr hlk hG hS True.intro dX9_anew_30
  · skip
    have c_36 : v_9.toInt = 0 := q_eq c_36
    refine lv_bipush (v := (-2)) hx hb dX9_anew_7 (by decide) ?_
    refine lv_pc (pc2 := 9) rfl ?_
    exact ty_iret hx hb hr hlk hG hS True.intro dX9_anew_9

def uX9_knob : List Cond := .code yX9_knob cX9_knob 7 (some .int) :: ([.methodLink RX9 228 yX9_isNoKnob, .static yX9_isNoKnob, .initialized RX9, .methodLink RX9 127 yX9_isNoItem, .static yX9_isNoItem, .methodLink RX9 99 yX9_isOutside, .static yX9_isOutside, .constant RX9 231 (1000000), .methodLink RX9 131 yX9_lacksItem, .instanceMethod yX9_lacksItem, .selects RX9 yX9_lacksItem yX9_lacksItem, .fieldLink RX9 19 "RiverModel" "model" "LRiverModel$Model;", .methodLink RX9 232 yX4_hasNumber, .instanceMethod yX4_hasNumber, .selects RX4 yX4_hasNumber yX4_hasNumber, .initialized RX4, .fieldLink RX9 81 "RiverModel" "knobs" "LRiverModel$Knobs;", .methodLink RX9 236 yX3_set, .instanceMethod yX3_set, .selects RX3 yX3_set yX3_set, .initialized RX3, .code yX9_isNoKnob cX9_isNoKnob 1 (some .boolean), .code yX9_isNoItem cX9_isNoItem 1 (some .boolean), .code yX9_isOutside cX9_isOutside 3 (some .boolean), .code yX9_lacksItem cX9_lacksItem 2 (some .boolean), .fieldLink RX9 29 "RiverModel" "isBuilt" "Z", .fieldLink RX9 124 "RiverModel$Model" "many" "I", .code yX4_hasNumber cX4_hasNumber 3 (some .boolean), .methodLink RX4 73 yX4_cell, .instanceMethod yX4_cell, .selects RX4 yX4_cell yX4_cell, .methodLink RX4 86 yX2_numbersOf, .static yX2_numbersOf, .initialized RX2, .code yX4_cell cX4_cell 3 (some .int), .fieldLink RX4 9 "RiverModel$Model" "cells" "[I", .code yX2_numbersOf cX2_numbersOf 1 (some .int), .code yX3_set cX3_set 7 none, .fieldLink RX3 9 "RiverModel$Knobs" "items" "[I", .fieldLink RX3 15 "RiverModel$Knobs" "numbers" "[I", .fieldLink RX3 18 "RiverModel$Knobs" "froms" "[I", .fieldLink RX3 21 "RiverModel$Knobs" "steps" "[I", .fieldLink RX3 24 "RiverModel$Knobs" "manys" "[I"] ++ wsX90 ++ wsX40 ++ wsX30)
set_option maxRecDepth 20000 in
theorem gu_X9_knob_X9_isNoKnob_228 : GoodIn uX9_knob (va_wsS RX9 228 yX9_isNoKnob uX9_isNoKnob) := goodIn_r _ [1, 2, 3, 22] rfl (by decide +kernel)
set_option maxRecDepth 20000 in
theorem gu_X9_knob_X9_isNoItem_127 : GoodIn uX9_knob (va_wsS RX9 127 yX9_isNoItem uX9_isNoItem) := goodIn_r _ [4, 5, 3, 23] rfl (by decide +kernel)
set_option maxRecDepth 20000 in
theorem gu_X9_knob_X9_isOutside_99 : GoodIn uX9_knob (va_wsS RX9 99 yX9_isOutside uX9_isOutside) := goodIn_r _ [6, 7, 3, 24] rfl (by decide +kernel)
set_option maxRecDepth 20000 in
theorem gu_X9_knob_X9_lacksItem_131 : GoodIn uX9_knob (wsV RX9 131 RX9 yX9_lacksItem uX9_lacksItem) := goodIn_r _ [9, 10, 11, 3, 25, 26, 12, 27, 44, 45, 46, 47, 48, 49, 50, 51, 52, 53, 54, 55, 56, 57, 58, 59, 60, 61, 62, 63, 64, 65, 66, 67] rfl (by decide +kernel)
set_option maxRecDepth 20000 in
theorem gu_X9_knob_X4_hasNumber_232 : GoodIn uX9_knob (wsV RX9 232 RX4 yX4_hasNumber uX4_hasNumber) := goodIn_r _ [13, 14, 15, 16, 28, 29, 30, 31, 16, 32, 33, 34, 35, 36, 37, 62, 63, 64, 65, 66, 67] rfl (by decide +kernel)
set_option maxRecDepth 20000 in
theorem gu_X9_knob_X3_set_236 : GoodIn uX9_knob (wsV RX9 236 RX3 yX3_set uX3_set) := goodIn_r _ [18, 19, 20, 21, 38, 3, 2, 39, 40, 41, 42, 43, 22, 68, 69, 70, 71, 72] rfl (by decide +kernel)
set_option maxHeartbeats 4000000 in
set_option maxRecDepth 100000 in
theorem s_X9_knob (l : Launch) (D : va_G) (t : Nat → Nat) (cI cL cC : ClassId) (gC : Int32) (gE : Int32) (G : Nat) (gW : Nat → Int32) (gA : Nat → Int32) (a0 : Nat) (a1 : Int32) (a2 : Int32) (a3 : Int32) (a4 : Int32) (a5 : Int32) (a6 : Int32) (k_a0 : t a0 = 1) : tM l yX9_knob uX9_knob 2 46 D (gF cI cL cC gC gE G gW gA) (gF cI cL cC gC gE G gW gA) t cI cL cC [.ref a0, .int a1, .int a2, .int a3, .int a4, .int a5, .int a6] wrKn (pI (fun r => True)) := by
  refine tM.ofW (cc := cX9_knob) (maxL := 7) (ret := (some .int)) (by decide) rfl (Nat.le_of_ble_eq_true rfl) ?_
  intro p e s m below meth c hx hb hr hml hown hts hlk H locs hG hK hE hS ls hl
  have hl : lv_has ls 7 [(0, .ref a0), (1, .int a1), (2, .int a2), (3, .int a3), (4, .int a4), (5, .int a5), (6, .int a6)] := hl
  have in9 : ∀ w ∈ wsX90, w ∈ uX9_knob := fun w h => List.mem_cons_of_mem _ (List.mem_append_left _ (List.mem_append_left _ (List.mem_append_right _ h)))
  refine lv_iload_n hx hb dX9_knob_0 rfl (lv_at hl 1 rfl) ?_
  refine ty_calli ((W.runS (As := [.int a1]) (rest := []) ⟨hx, hb, hml, hown, hts⟩ (s_X9_isNoKnob l D t cI cL cC gC gE G gW gA a1 ) (va_cwS 1 hts gu_X9_knob_X9_isNoKnob_228 rfl rfl rfl (by decide +kernel) ⟨Nat.le_of_ble_eq_true rfl, Nat.le_of_ble_eq_true rfl⟩) (tP_S hG hE) rfl rfl hl.1 rfl (lv_room (Nat.le_of_ble_eq_true rfl)) dX9_knob_1 ⟨Nat.le_of_ble_eq_true rfl, Nat.le_of_ble_eq_true rfl⟩)) hS (fun k h => by simp [wr0] at h) (fun r_1 H locs hp_2 hG hS o_3 => ?_)
  rcases hp_2 with ⟨rfl, hc_173⟩ | ⟨rfl, hc_174, hc_175⟩
  · skip
    refine lv_if_ne (tgt := 23) hx hb dX9_knob_4 (by decide) (fun _ => ?_) (fun q => absurd q (by decide))
    refine lv_iconst (v := (-1)) hx hb dX9_knob_23 (by decide) ?_
    exact ty_iret hx hb hr hlk hG hS True.intro dX9_knob_24
  · skip
    refine lv_if_ne (tgt := 23) hx hb dX9_knob_4 (by decide) (fun q => absurd rfl q) (fun _ => ?_)
    refine lv_iload_n hx hb dX9_knob_7 rfl (lv_at hl 2 rfl) ?_
    refine lv_pc (pc2 := 8) rfl ?_
    refine ty_calli ((W.runS (As := [.int a2]) (rest := []) ⟨hx, hb, hml, hown, hts⟩ (s_X9_isNoItem l D t cI cL cC gC gE G gW gA a2 ) (va_cwS 1 hts gu_X9_knob_X9_isNoItem_127 rfl rfl rfl (by decide +kernel) ⟨Nat.le_of_ble_eq_true rfl, Nat.le_of_ble_eq_true rfl⟩) (tP_S hG hE) rfl rfl hl.1 rfl (lv_room (Nat.le_of_ble_eq_true rfl)) dX9_knob_8 ⟨Nat.le_of_ble_eq_true rfl, Nat.le_of_ble_eq_true rfl⟩)) hS (fun k h => by simp [wr0] at h) (fun r_4 H locs hp_5 hG hS o_6 => ?_)
    rcases hp_5 with ⟨rfl, hc_176⟩ | ⟨rfl, hc_177, hc_178⟩
    · skip
      refine lv_if_ne (tgt := 23) hx hb dX9_knob_11 (by decide) (fun _ => ?_) (fun q => absurd q (by decide))
      refine lv_iconst (v := (-1)) hx hb dX9_knob_23 (by decide) ?_
      exact ty_iret hx hb hr hlk hG hS True.intro dX9_knob_24
    · skip
      refine lv_if_ne (tgt := 23) hx hb dX9_knob_11 (by decide) (fun q => absurd rfl q) (fun _ => ?_)
      refine lv_iload_n hx hb dX9_knob_14 rfl (lv_at hl 3 rfl) ?_
      refine lv_iconst (v := 0) hx hb dX9_knob_15 (by decide) ?_
      refine lv_iconst (v := 2) hx hb dX9_knob_16 (by decide) ?_
      refine lv_pc (pc2 := 17) rfl ?_
      refine ty_calli ((W.runS (As := [.int a3, .int 0, .int 2]) (rest := []) ⟨hx, hb, hml, hown, hts⟩ (s_X9_isOutside l D t cI cL cC gC gE G gW gA a3 0 2 0 2 (by decide) (by decide) ) (va_cwS 3 hts gu_X9_knob_X9_isOutside_99 rfl rfl rfl (by decide +kernel) ⟨Nat.le_of_ble_eq_true rfl, Nat.le_of_ble_eq_true rfl⟩) (tP_S hG hE) rfl rfl hl.1 rfl (lv_room (Nat.le_of_ble_eq_true rfl)) dX9_knob_17 ⟨Nat.le_of_ble_eq_true rfl, Nat.le_of_ble_eq_true rfl⟩)) hS (fun k h => by simp [wr0] at h) (fun r_7 H locs hp_8 hG hS o_9 => ?_)
      rcases hp_8 with ⟨rfl, hc_179⟩ | ⟨rfl, hc_180, hc_181⟩
      · skip
        refine lv_if_eq (tgt := 25) hx hb dX9_knob_20 (by decide) (fun q => absurd q (by decide)) (fun _ => ?_)
        refine lv_iconst (v := (-1)) hx hb dX9_knob_23 (by decide) ?_
        exact ty_iret hx hb hr hlk hG hS True.intro dX9_knob_24
      · skip
        refine lv_if_eq (tgt := 25) hx hb dX9_knob_20 (by decide) (fun _ => ?_) (fun q => absurd (by decide) q)
        refine lv_iload hx hb dX9_knob_25 (lv_at hl 4 rfl) ?_
        refine lv_iconst (v := 0) hx hb dX9_knob_27 (by decide) ?_
        refine lv_ldc hx hb hown (hts (.constant RX9 231 (1000000)) (List.mem_of_getElem? (i := 8) rfl)) dX9_knob_28 ?_
        refine lv_pc (pc2 := 30) rfl ?_
        refine ty_calli ((W.runS (As := [.int a4, .int 0, .int 1000000]) (rest := []) ⟨hx, hb, hml, hown, hts⟩ (s_X9_isOutside l D t cI cL cC gC gE G gW gA a4 0 1000000 0 1000000 (by decide) (by decide) ) (va_cwS 3 hts gu_X9_knob_X9_isOutside_99 rfl rfl rfl (by decide +kernel) ⟨Nat.le_of_ble_eq_true rfl, Nat.le_of_ble_eq_true rfl⟩) (tP_S hG hE) rfl rfl hl.1 rfl (lv_room (Nat.le_of_ble_eq_true rfl)) dX9_knob_30 ⟨Nat.le_of_ble_eq_true rfl, Nat.le_of_ble_eq_true rfl⟩)) hS (fun k h => by simp [wr0] at h) (fun r_10 H locs hp_11 hG hS o_12 => ?_)
        rcases hp_11 with ⟨rfl, hc_182⟩ | ⟨rfl, hc_183, hc_184⟩
        · skip
          refine lv_if_ne (tgt := 58) hx hb dX9_knob_33 (by decide) (fun _ => ?_) (fun q => absurd q (by decide))
          refine lv_iconst (v := (-1)) hx hb dX9_knob_58 (by decide) ?_
          exact ty_iret hx hb hr hlk hG hS True.intro dX9_knob_59
        · skip
          refine lv_if_ne (tgt := 58) hx hb dX9_knob_33 (by decide) (fun q => absurd rfl q) (fun _ => ?_)
          refine lv_iload hx hb dX9_knob_36 (lv_at hl 5 rfl) ?_
          refine lv_iconst (v := 1) hx hb dX9_knob_38 (by decide) ?_
          refine lv_ldc hx hb hown (hts (.constant RX9 231 (1000000)) (List.mem_of_getElem? (i := 8) rfl)) dX9_knob_39 ?_
          refine lv_pc (pc2 := 41) rfl ?_
          refine ty_calli ((W.runS (As := [.int a5, .int 1, .int 1000000]) (rest := []) ⟨hx, hb, hml, hown, hts⟩ (s_X9_isOutside l D t cI cL cC gC gE G gW gA a5 1 1000000 1 1000000 (by decide) (by decide) ) (va_cwS 3 hts gu_X9_knob_X9_isOutside_99 rfl rfl rfl (by decide +kernel) ⟨Nat.le_of_ble_eq_true rfl, Nat.le_of_ble_eq_true rfl⟩) (tP_S hG hE) rfl rfl hl.1 rfl (lv_room (Nat.le_of_ble_eq_true rfl)) dX9_knob_41 ⟨Nat.le_of_ble_eq_true rfl, Nat.le_of_ble_eq_true rfl⟩)) hS (fun k h => by simp [wr0] at h) (fun r_13 H locs hp_14 hG hS o_15 => ?_)
          rcases hp_14 with ⟨rfl, hc_185⟩ | ⟨rfl, hc_186, hc_187⟩
          · skip
            refine lv_if_ne (tgt := 58) hx hb dX9_knob_44 (by decide) (fun _ => ?_) (fun q => absurd q (by decide))
            refine lv_iconst (v := (-1)) hx hb dX9_knob_58 (by decide) ?_
            exact ty_iret hx hb hr hlk hG hS True.intro dX9_knob_59
          · skip
            refine lv_if_ne (tgt := 58) hx hb dX9_knob_44 (by decide) (fun q => absurd rfl q) (fun _ => ?_)
            refine lv_iload hx hb dX9_knob_47 (lv_at hl 6 rfl) ?_
            refine lv_iconst (v := 0) hx hb dX9_knob_49 (by decide) ?_
            refine lv_bipush (v := 16) hx hb dX9_knob_50 (by decide) ?_
            refine lv_pc (pc2 := 52) rfl ?_
            refine ty_calli ((W.runS (As := [.int a6, .int 0, .int 16]) (rest := []) ⟨hx, hb, hml, hown, hts⟩ (s_X9_isOutside l D t cI cL cC gC gE G gW gA a6 0 16 0 16 (by decide) (by decide) ) (va_cwS 3 hts gu_X9_knob_X9_isOutside_99 rfl rfl rfl (by decide +kernel) ⟨Nat.le_of_ble_eq_true rfl, Nat.le_of_ble_eq_true rfl⟩) (tP_S hG hE) rfl rfl hl.1 rfl (lv_room (Nat.le_of_ble_eq_true rfl)) dX9_knob_52 ⟨Nat.le_of_ble_eq_true rfl, Nat.le_of_ble_eq_true rfl⟩)) hS (fun k h => by simp [wr0] at h) (fun r_16 H locs hp_17 hG hS o_18 => ?_)
            rcases hp_17 with ⟨rfl, hc_188⟩ | ⟨rfl, hc_189, hc_190⟩
            · skip
              refine lv_if_eq (tgt := 60) hx hb dX9_knob_55 (by decide) (fun q => absurd q (by decide)) (fun _ => ?_)
              refine lv_iconst (v := (-1)) hx hb dX9_knob_58 (by decide) ?_
              exact ty_iret hx hb hr hlk hG hS True.intro dX9_knob_59
            · skip
              refine lv_if_eq (tgt := 60) hx hb dX9_knob_55 (by decide) (fun _ => ?_) (fun q => absurd (by decide) q)
              refine lv_aload_n hx hb dX9_knob_60 rfl (lv_at hl 0 rfl) ?_
              refine lv_iload_n hx hb dX9_knob_61 rfl (lv_at hl 2 rfl) ?_
              obtain ⟨r_19, r_21, r_23, r_25, v_27, v_28, r_29, r_31, r_33, r_35, r_37, r_39, r_41, v_43, r_45, r_47, r_49, r_51, at_53, h_20, h_22, h_24, h_26, h_30, h_32, h_34, h_36, h_38, h_40, h_42, h_44, h_46, h_48, h_50, h_52⟩ := gF_o1 hG k_a0
              refine ty_calli ((W.runV (As := [.int a2]) (rest := []) ⟨hx, hb, hml, hown, hts⟩ (s_X9_lacksItem l D t cI cL cC gC gE G gW gA a0 a2 k_a0) (cwV 1 hts gu_X9_knob_X9_lacksItem_131 rfl rfl rfl (by decide +kernel) ⟨Nat.le_of_ble_eq_true rfl, Nat.le_of_ble_eq_true rfl⟩) (tP_V hG hE at_53 rfl) rfl rfl hl.1 rfl (lv_room (Nat.le_of_ble_eq_true rfl)) dX9_knob_62 ⟨Nat.le_of_ble_eq_true rfl, Nat.le_of_ble_eq_true rfl⟩)) hS (fun k h => by simp [wr0] at h) (fun r_54 H locs hp_55 hG hS o_56 => ?_)
              have at_53 := va_at.keptC at_53 o_56 k_a0 rfl
              rcases hp_55 with rfl | rfl
              · skip
                refine lv_pc (pc2 := 65) rfl ?_
                refine lv_if_ne (tgt := 80) hx hb dX9_knob_65 (by decide) (fun q => absurd rfl q) (fun _ => ?_)
                refine lv_aload_n hx hb dX9_knob_68 rfl (lv_at hl 0 rfl) ?_
                refine va_get (D := D) (ci := 8) (v := .ref r_21) (C := RX9) (T := TX9) (N := 18) hx hb hts in9 hown hK (va_one at_53) 0 rfl rfl 1 (by decide) (hts (.fieldLink RX9 19 "RiverModel" "model" "LRiverModel$Model;") (List.mem_of_getElem? (i := 12) rfl)) (fun _ h9 => h9) rfl dX9_knob_69 ?_
                refine lv_iload_n hx hb dX9_knob_72 rfl (lv_at hl 2 rfl) ?_
                refine lv_iload_n hx hb dX9_knob_73 rfl (lv_at hl 3 rfl) ?_
                obtain ⟨r_57, r_59, r_61, v_63, v_64, v_65, at_67, h_58, h_60, h_62, h_66⟩ := gF_o3 hG h_22
                refine ty_calli ((W.runV (As := [.int a2, .int a3]) (rest := []) ⟨hx, hb, hml, hown, hts⟩ (s_X4_hasNumber l D t cI cL cC gC gE G gW gA r_21 a2 a3 h_22) (cwV 2 hts gu_X9_knob_X4_hasNumber_232 rfl rfl rfl (by decide +kernel) ⟨Nat.le_of_ble_eq_true rfl, Nat.le_of_ble_eq_true rfl⟩) (tP_V hG hE at_67 rfl) rfl rfl hl.1 rfl (lv_room (Nat.le_of_ble_eq_true rfl)) dX9_knob_74 ⟨Nat.le_of_ble_eq_true rfl, Nat.le_of_ble_eq_true rfl⟩)) hS (fun k h => by simp [wr0] at h) (fun r_68 H locs hp_69 hG hS o_70 => ?_)
                have at_53 := va_at.keptC at_53 o_70 k_a0 rfl
                have at_67 := va_at.keptC at_67 o_70 h_22 rfl
                rcases hp_69 with rfl | rfl
                · skip
                  refine lv_if_ne (tgt := 83) hx hb dX9_knob_77 (by decide) (fun q => absurd rfl q) (fun _ => ?_)
                  refine lv_bipush (v := (-2)) hx hb dX9_knob_80 (by decide) ?_
                  refine lv_pc (pc2 := 82) rfl ?_
                  exact ty_iret hx hb hr hlk hG hS True.intro dX9_knob_82
                · skip
                  refine lv_if_ne (tgt := 83) hx hb dX9_knob_77 (by decide) (fun _ => ?_) (fun q => absurd q (by decide))
                  refine lv_aload_n hx hb dX9_knob_83 rfl (lv_at hl 0 rfl) ?_
                  refine va_get (D := D) (ci := 8) (v := .ref r_47) (C := RX9) (T := TX9) (N := 18) hx hb hts in9 hown hK (va_one at_53) 0 rfl rfl 15 (by decide) (hts (.fieldLink RX9 81 "RiverModel" "knobs" "LRiverModel$Knobs;") (List.mem_of_getElem? (i := 17) rfl)) (fun _ h9 => h9) rfl dX9_knob_84 ?_
                  refine lv_iload_n hx hb dX9_knob_87 rfl (lv_at hl 1 rfl) ?_
                  refine lv_iload_n hx hb dX9_knob_88 rfl (lv_at hl 2 rfl) ?_
                  refine lv_iload_n hx hb dX9_knob_89 rfl (lv_at hl 3 rfl) ?_
                  refine lv_iload hx hb dX9_knob_90 (lv_at hl 4 rfl) ?_
                  refine lv_pc (pc2 := 92) rfl ?_
                  refine lv_iload hx hb dX9_knob_92 (lv_at hl 5 rfl) ?_
                  refine lv_iload hx hb dX9_knob_94 (lv_at hl 6 rfl) ?_
                  obtain ⟨r_71, r_73, r_75, r_77, r_79, at_81, h_72, h_74, h_76, h_78, h_80⟩ := gF_o7 hG h_48
                  refine ty_callv ((W.runV (As := [.int a1, .int a2, .int a3, .int a4, .int a5, .int a6]) (rest := []) ⟨hx, hb, hml, hown, hts⟩ (s_X3_set l D t cI cL cC gC gE G gW gA r_47 a1 a2 a3 a4 a5 a6 (by omega) (by omega) h_48) (cwV 6 hts gu_X9_knob_X3_set_236 rfl rfl rfl (by decide +kernel) ⟨Nat.le_of_ble_eq_true rfl, Nat.le_of_ble_eq_true rfl⟩) (tP_V hG hE at_81 rfl) rfl rfl hl.1 rfl (lv_room (Nat.le_of_ble_eq_true rfl)) dX9_knob_96 ⟨Nat.le_of_ble_eq_true rfl, Nat.le_of_ble_eq_true rfl⟩)) hS (fun _ h => h) (fun H locs hp_83 hG hS o_84 => ?_)
                  have at_53 := va_at.keptC at_53 o_84 k_a0 rfl
                  have at_67 := va_at.keptC at_67 o_84 h_22 rfl
                  have at_81 := va_at.keptC at_81 o_84 h_48 rfl
                  refine lv_iconst (v := 0) hx hb dX9_knob_99 (by decide) ?_
                  exact ty_iret hx hb hr hlk hG hS True.intro dX9_knob_100
              · skip
                refine lv_if_ne (tgt := 80) hx hb dX9_knob_65 (by decide) (fun _ => ?_) (fun q => absurd q (by decide))
                refine lv_bipush (v := (-2)) hx hb dX9_knob_80 (by decide) ?_
                exact ty_iret hx hb hr hlk hG hS True.intro dX9_knob_82

def uX9_run : List Cond := .code yX9_run cX9_run 3 (some .int) :: ([.methodLink RX9 99 yX9_isOutside, .static yX9_isOutside, .initialized RX9, .fieldLink RX9 29 "RiverModel" "isBuilt" "Z", .fieldLink RX9 53 "RiverModel" "now" "LRiverModel$Course;", .fieldLink RX9 144 "RiverModel$Course" "hours" "I", .fieldLink RX9 19 "RiverModel" "model" "LRiverModel$Model;", .fieldLink RX9 39 "RiverModel" "skyA" "LRiverModel$Sky;", .methodLink RX9 151 yX0_goHourBy, .instanceMethod yX0_goHourBy, .selects RX0 yX0_goHourBy yX0_goHourBy, .initialized RX0, .code yX9_isOutside cX9_isOutside 3 (some .boolean), .code yX0_goHourBy cX0_goHourBy 3 none, .fieldLink RX0 35 "RiverModel$Course" "hours" "I", .methodLink RX0 60 yX6_rainIn, .instanceMethod yX6_rainIn, .selects RX6 yX6_rainIn yX6_rainIn, .initialized RX6, .methodLink RX0 65 yX6_tempIn, .instanceMethod yX6_tempIn, .selects RX6 yX6_tempIn yX6_tempIn, .methodLink RX0 68 yX0_goHour, .instanceMethod yX0_goHour, .selects RX0 yX0_goHour yX0_goHour, .code yX6_rainIn cX6_rainIn 2 (some .int), .fieldLink RX6 9 "RiverModel$Sky" "rains" "[I", .code yX6_tempIn cX6_tempIn 2 (some .int), .fieldLink RX6 15 "RiverModel$Sky" "temps" "[I", .code yX0_goHour cX0_goHour 7 none, .methodLink RX0 72 yX0_bringDue, .instanceMethod yX0_bringDue, .selects RX0 yX0_bringDue yX0_bringDue, .fieldLink RX0 75 "RiverModel$Model" "many" "I", .methodLink RX0 78 yX0_amountOf, .instanceMethod yX0_amountOf, .selects RX0 yX0_amountOf yX0_amountOf, .fieldLink RX0 15 "RiverModel$Course" "moved" "[J", .methodLink RX0 82 yX0_move, .instanceMethod yX0_move, .selects RX0 yX0_move yX0_move, .code yX0_bringDue cX0_bringDue 3 none, .fieldLink RX0 9 "RiverModel$Course" "held" "[J", .fieldLink RX0 22 "RiverModel$Course" "due" "[J", .code yX0_amountOf cX0_amountOf 11 (some .long), .methodLink RX0 86 yX4_cell, .instanceMethod yX4_cell, .selects RX4 yX4_cell yX4_cell, .initialized RX4, .static yX9_isNoStore, .methodLink RX0 110 yX4_gateOf, .instanceMethod yX4_gateOf, .selects RX4 yX4_gateOf yX4_gateOf, .methodLink RX0 113 yX0_openingOf, .instanceMethod yX0_openingOf, .selects RX0 yX0_openingOf yX0_openingOf, .methodLink RX0 107 Lib.MathLoose.min_long.x, .static Lib.MathLoose.min_long.x, .initialized "java/lang/Math", .code Lib.MathLoose.min_long.x Lib.MathLoose.min_long.code 4 (some .long), .methodLink RX0 94 yX0_leakOf, .static yX0_leakOf, .constantLong RX0 117 (100), .methodLink RX0 98 yX4_capacityOf, .instanceMethod yX4_capacityOf, .selects RX4 yX4_capacityOf yX4_capacityOf, .methodLink RX0 101 Lib.MathLoose.max_long.x, .static Lib.MathLoose.max_long.x, .code Lib.MathLoose.max_long.x Lib.MathLoose.max_long.code 4 (some .long), .constantLong RX0 119 (10), .code yX4_cell cX4_cell 3 (some .int), .fieldLink RX4 9 "RiverModel$Model" "cells" "[I", .code yX9_isNoStore cX9_isNoStore 1 (some .boolean), .code yX4_gateOf cX4_gateOf 3 (some .int), .fieldLink RX4 28 "RiverModel$Model" "gates" "I", .fieldLink RX4 18 "RiverModel$Model" "gateItems" "[I", .code yX0_openingOf cX0_openingOf 2 (some .long), .static yX9_isNoGate, .fieldLink RX0 18 "RiverModel$Course" "openings" "[I", .code yX9_isNoGate cX9_isNoGate 1 (some .boolean), .code yX0_leakOf cX0_leakOf 8 (some .long), .code yX4_capacityOf cX4_capacityOf 2 (some .int), .methodLink RX4 66 yX4_hasStore, .instanceMethod yX4_hasStore, .selects RX4 yX4_hasStore yX4_hasStore, .fieldLink RX4 15 "RiverModel$Model" "storeItems" "[I", .methodLink RX4 73 yX4_cell, .code yX4_hasStore cX4_hasStore 2 (some .boolean), .code yX0_move cX0_move 8 none, .fieldLink RX0 25 "RiverModel$Course" "rained" "J", .methodLink RX0 124 yX0_send, .instanceMethod yX0_send, .selects RX0 yX0_send yX0_send, .fieldLink RX0 32 "RiverModel$Course" "sea" "J", .fieldLink RX0 29 "RiverModel$Course" "air" "J", .code yX0_send cX0_send 5 none] ++ wsX90 ++ wsX00 ++ wsX60 ++ wsX40)
set_option maxRecDepth 20000 in
theorem gu_X9_run_X9_isOutside_99 : GoodIn uX9_run (va_wsS RX9 99 yX9_isOutside uX9_isOutside) := goodIn_r _ [1, 2, 3, 13] rfl (by decide +kernel)
set_option maxRecDepth 20000 in
theorem gu_X9_run_X0_goHourBy_151 : GoodIn uX9_run (wsV RX9 151 RX0 yX0_goHourBy uX0_goHourBy) := goodIn_r _ [9, 10, 11, 12, 14, 15, 16, 17, 18, 19, 20, 21, 22, 23, 24, 25, 12, 26, 3, 2, 27, 13, 28, 29, 30, 31, 32, 33, 34, 35, 36, 37, 38, 39, 40, 41, 42, 43, 44, 45, 46, 47, 48, 49, 50, 51, 52, 53, 54, 55, 56, 57, 58, 59, 60, 61, 62, 63, 64, 65, 66, 67, 68, 69, 70, 71, 72, 73, 74, 75, 76, 77, 78, 79, 80, 81, 82, 83, 84, 85, 86, 87, 88, 89, 90, 91, 92, 93, 94, 95, 96, 115, 116, 117, 118, 119, 120, 121, 122, 123, 124, 125, 126, 127, 128, 129, 130] rfl (by decide +kernel)
set_option maxHeartbeats 4000000 in
set_option maxRecDepth 100000 in
theorem s_X9_run (l : Launch) (D : va_G) (t : Nat → Nat) (cI cL cC : ClassId) (gC : Int32) (gE : Int32) (G : Nat) (gW : Nat → Int32) (gA : Nat → Int32) (a0 : Nat) (a1 : Int32) (hGb : G ≤ 100000000) (k_a0 : t a0 = 1) : tM l yX9_run uX9_run 5 121 D (gF cI cL cC gC gE G gW gA) (gF cI cL cC gC gE (G + 96) gW gA) t cI cL cC [.ref a0, .int a1] wrC (pI (fun r => True)) := by
  refine tM.ofW (cc := cX9_run) (maxL := 3) (ret := (some .int)) (by decide) rfl (Nat.le_of_ble_eq_true rfl) ?_
  intro p e s m below meth c hx hb hr hml hown hts hlk H locs hG hK hE hS ls hl
  have hl : lv_has ls 3 [(0, .ref a0), (1, .int a1)] := hl
  have in9 : ∀ w ∈ wsX90, w ∈ uX9_run := fun w h => List.mem_cons_of_mem _ (List.mem_append_left _ (List.mem_append_left _ (List.mem_append_left _ (List.mem_append_right _ h))))
  have in0 : ∀ w ∈ wsX00, w ∈ uX9_run := fun w h => List.mem_cons_of_mem _ (List.mem_append_left _ (List.mem_append_left _ (List.mem_append_right _ h)))
  refine lv_iload_n hx hb dX9_run_0 rfl (lv_at hl 1 rfl) ?_
  refine lv_iconst (v := 1) hx hb dX9_run_1 (by decide) ?_
  refine lv_bipush (v := 96) hx hb dX9_run_2 (by decide) ?_
  refine ty_calli ((W.runS (As := [.int a1, .int 1, .int 96]) (rest := []) ⟨hx, hb, hml, hown, hts⟩ (s_X9_isOutside l D t cI cL cC gC gE G gW gA a1 1 96 1 96 (by decide) (by decide) ) (va_cwS 3 hts gu_X9_run_X9_isOutside_99 rfl rfl rfl (by decide +kernel) ⟨Nat.le_of_ble_eq_true rfl, Nat.le_of_ble_eq_true rfl⟩) (tP_S hG hE) rfl rfl hl.1 rfl (lv_room (Nat.le_of_ble_eq_true rfl)) dX9_run_4 ⟨Nat.le_of_ble_eq_true rfl, Nat.le_of_ble_eq_true rfl⟩)) hS (fun k h => by simp [wr0] at h) (fun r_1 H locs hp_2 hG hS o_3 => ?_)
  rcases hp_2 with ⟨rfl, hc_191⟩ | ⟨rfl, hc_192, hc_193⟩
  · skip
    refine lv_if_eq (tgt := 12) hx hb dX9_run_7 (by decide) (fun q => absurd q (by decide)) (fun _ => ?_)
    refine lv_iconst (v := (-1)) hx hb dX9_run_10 (by decide) ?_
    exact ty_iret hx hb hr hlk (hG.weak (fun _ _ => gF_mono (by omega))) hS True.intro dX9_run_11
  · skip
    refine lv_pc (pc2 := 7) rfl ?_
    refine lv_if_eq (tgt := 12) hx hb dX9_run_7 (by decide) (fun _ => ?_) (fun q => absurd (by decide) q)
    refine lv_aload_n hx hb dX9_run_12 rfl (lv_at hl 0 rfl) ?_
    obtain ⟨r_4, r_6, r_8, r_10, v_12, v_13, r_14, r_16, r_18, r_20, r_22, r_24, r_26, v_28, r_30, r_32, r_34, r_36, at_38, h_5, h_7, h_9, h_11, h_15, h_17, h_19, h_21, h_23, h_25, h_27, h_29, h_31, h_33, h_35, h_37⟩ := gF_o1 hG k_a0
    refine va_get (D := D) (ci := 8) (v := .int v_12) (C := RX9) (T := TX9) (N := 18) hx hb hts in9 hown hK (va_one at_38) 0 rfl rfl 4 (by decide) (hts (.fieldLink RX9 29 "RiverModel" "isBuilt" "Z") (List.mem_of_getElem? (i := 4) rfl)) (fun _ h9 => h9) rfl dX9_run_13 ?_
    refine lv_if_ne (tgt := 22) hx hb dX9_run_16 (by decide) (fun c_39 => ?_) (fun c_39 => ?_)
    · skip
      have c_39 : v_12.toInt ≠ 0 := q_ne c_39
      refine lv_aload_n hx hb dX9_run_22 rfl (lv_at hl 0 rfl) ?_
      refine va_get (D := D) (ci := 8) (v := .ref r_20) (C := RX9) (T := TX9) (N := 18) hx hb hts in9 hown hK (va_one at_38) 0 rfl rfl 9 (by decide) (hts (.fieldLink RX9 53 "RiverModel" "now" "LRiverModel$Course;") (List.mem_of_getElem? (i := 5) rfl)) (fun _ h9 => h9) rfl dX9_run_23 ?_
      obtain ⟨r_40, r_42, r_44, r_46, v_48, v_49, v_50, v_51, at_53, h_41, h_43, h_45, h_47, h_52⟩ := gF_o5 hG h_21
      refine va_get (D := D) (ci := 0) (v := .int v_51) (C := RX0) (T := TX0) (N := 8) hx hb hts in0 hown hK (va_one at_53) 0 rfl rfl 7 (by decide) (hts (.fieldLink RX9 144 "RiverModel$Course" "hours" "I") (List.mem_of_getElem? (i := 6) rfl)) (fun _ h9 => h9) rfl dX9_run_26 ?_
      refine lv_iload_n hx hb dX9_run_29 rfl (lv_at hl 1 rfl) ?_
      refine lv_pc (pc2 := 30) rfl ?_
      refine lv_iadd hx hb dX9_run_30 ?_
      refine lv_topi (fun x_54 e_55 => ?_)
      refine lv_bipush (v := 96) hx hb dX9_run_31 (by decide) ?_
      refine lv_icmp_le (tgt := 39) hx hb dX9_run_33 (by decide) (fun c_56 => ?_) (fun c_56 => ?_)
      · skip
        have c_56 : x_54.toInt ≤ 96 := q_le c_56
        refine lv_iconst (v := 0) hx hb dX9_run_39 (by decide) ?_
        refine lv_istore_n (lv' := [(2, .int 0), (0, .ref a0), (1, .int a1)]) hx hb dX9_run_40 rfl hl (by decide) rfl (fun ls hl => ?_)
        refine lv_pc (pc2 := 41) rfl ?_
        refine lp_gen (fun WW hWW => ?_)
        have kx : ∀ (yk : Int32) (g : Nat) (H1 : Heap) (locs1 : List Loc) (ls1 : Array Slot), 0 ≤ yk.toInt → yk.toInt ≤ 96 → (g : Int) + (96 - yk.toInt) ≤ (G : Int) + 96 → tG D (gF cI cL cC gC gE g gW gA) t H1 → tF t wrC s.heap H1 locs1 → lv_has ls1 3 [(2, .int yk), (0, .ref a0), (1, .int a1)] → WW H1 locs1 (F0 m 67 ls1 []) := by
          intro yk g H locs ls v0 v1 v2 hG hS hl
          refine (hWW _ _ _).mpr ?_
          refine lv_aload_n hx hb dX9_run_67 rfl (lv_at hl 1 rfl) ?_
          obtain ⟨r_57, r_59, r_61, r_63, v_65, v_66, r_67, r_69, r_71, r_73, r_75, r_77, r_79, v_81, r_83, r_85, r_87, r_89, at_91, h_58, h_60, h_62, h_64, h_68, h_70, h_72, h_74, h_76, h_78, h_80, h_82, h_84, h_86, h_88, h_90⟩ := gF_o1 hG k_a0
          refine va_get (D := D) (ci := 8) (v := .ref r_73) (C := RX9) (T := TX9) (N := 18) hx hb hts in9 hown hK (va_one at_91) 0 rfl rfl 9 (by decide) (hts (.fieldLink RX9 53 "RiverModel" "now" "LRiverModel$Course;") (List.mem_of_getElem? (i := 5) rfl)) (fun _ h9 => h9) rfl dX9_run_68 ?_
          obtain ⟨r_92, r_94, r_96, r_98, v_100, v_101, v_102, v_103, at_105, h_93, h_95, h_97, h_99, h_104⟩ := gF_o5 hG h_74
          refine va_get (D := D) (ci := 0) (v := .int v_103) (C := RX0) (T := TX0) (N := 8) hx hb hts in0 hown hK (va_one at_105) 0 rfl rfl 7 (by decide) (hts (.fieldLink RX9 144 "RiverModel$Course" "hours" "I") (List.mem_of_getElem? (i := 6) rfl)) (fun _ h9 => h9) rfl dX9_run_71 ?_
          refine lv_pc (pc2 := 74) rfl ?_
          exact ty_iret hx hb hr hlk (hG.weak (fun _ _ => gF_mono (by omega))) hS True.intro dX9_run_74
        have loop : ∀ (k : Nat) (yk : Int32) (g : Nat) (H1 : Heap) (locs1 : List Loc) (ls1 : Array Slot), 96 - yk.toInt ≤ (k : Int) → 0 ≤ yk.toInt → yk.toInt ≤ 96 → (g : Int) + (96 - yk.toInt) ≤ (G : Int) + 96 → tG D (gF cI cL cC gC gE g gW gA) t H1 → tF t wrC s.heap H1 locs1 → lv_has ls1 3 [(2, .int yk), (0, .ref a0), (1, .int a1)] → WW H1 locs1 (F0 m 41 ls1 []) := by
          intro k
          induction k with
          | zero =>
            intro yk g H locs ls hk v0 v1 v2 hG hS hl
            refine (hWW _ _ _).mpr ?_
            refine lv_iload_n hx hb dX9_run_41 rfl (lv_at hl 0 rfl) ?_
            refine lv_iload_n hx hb dX9_run_42 rfl (lv_at hl 2 rfl) ?_
            refine lv_icmp_ge (tgt := 67) hx hb dX9_run_43 (by decide) (fun c_106 => ?_) (fun c_106 => ?_)
            · skip
              have c_106 : a1.toInt ≤ yk.toInt := q_le c_106
              exact (hWW _ _ _).mp (kx yk g H locs ls (by omega) (by omega) (by omega) hG hS (lv_sub hl [0, 1, 2] rfl))
            · skip
              have c_106 : yk.toInt < a1.toInt := q_nle c_106
              refine lv_aload_n hx hb dX9_run_46 rfl (lv_at hl 1 rfl) ?_
              obtain ⟨r_107, r_109, r_111, r_113, v_115, v_116, r_117, r_119, r_121, r_123, r_125, r_127, r_129, v_131, r_133, r_135, r_137, r_139, at_141, h_108, h_110, h_112, h_114, h_118, h_120, h_122, h_124, h_126, h_128, h_130, h_132, h_134, h_136, h_138, h_140⟩ := gF_o1 hG k_a0
              refine va_get (D := D) (ci := 8) (v := .ref r_123) (C := RX9) (T := TX9) (N := 18) hx hb hts in9 hown hK (va_one at_141) 0 rfl rfl 9 (by decide) (hts (.fieldLink RX9 53 "RiverModel" "now" "LRiverModel$Course;") (List.mem_of_getElem? (i := 5) rfl)) (fun _ h9 => h9) rfl dX9_run_47 ?_
              refine lv_aload_n hx hb dX9_run_50 rfl (lv_at hl 1 rfl) ?_
              refine va_get (D := D) (ci := 8) (v := .ref r_109) (C := RX9) (T := TX9) (N := 18) hx hb hts in9 hown hK (va_one at_141) 0 rfl rfl 1 (by decide) (hts (.fieldLink RX9 19 "RiverModel" "model" "LRiverModel$Model;") (List.mem_of_getElem? (i := 7) rfl)) (fun _ h9 => h9) rfl dX9_run_51 ?_
              refine lv_pc (pc2 := 54) rfl ?_
              refine lv_aload_n hx hb dX9_run_54 rfl (lv_at hl 1 rfl) ?_
              refine va_get (D := D) (ci := 8) (v := .ref r_117) (C := RX9) (T := TX9) (N := 18) hx hb hts in9 hown hK (va_one at_141) 0 rfl rfl 6 (by decide) (hts (.fieldLink RX9 39 "RiverModel" "skyA" "LRiverModel$Sky;") (List.mem_of_getElem? (i := 8) rfl)) (fun _ h9 => h9) rfl dX9_run_55 ?_
              obtain ⟨r_142, r_144, r_146, r_148, v_150, v_151, v_152, v_153, at_155, h_143, h_145, h_147, h_149, h_154⟩ := gF_o5 hG h_124
              refine ty_callv ((W.runV (As := [.ref r_109, .ref r_117]) (rest := []) ⟨hx, hb, hml, hown, hts⟩ (s_X0_goHourBy l D t cI cL cC gC gE g gW gA r_123 r_109 r_117 (by omega) h_124 h_110 h_118) (cwV 2 hts gu_X9_run_X0_goHourBy_151 rfl rfl rfl (by decide +kernel) ⟨Nat.le_of_ble_eq_true rfl, Nat.le_of_ble_eq_true rfl⟩) (tP_V hG hE at_155 rfl) rfl rfl hl.1 rfl (lv_room (Nat.le_of_ble_eq_true rfl)) dX9_run_58 ⟨Nat.le_of_ble_eq_true rfl, Nat.le_of_ble_eq_true rfl⟩)) hS (fun _ h => h) (fun H locs hp_157 hG hS o_158 => ?_)
              have at_141 := va_at.keptC at_141 o_158 k_a0 rfl
              obtain ⟨x_159, e_160⟩ : ∃ y : Int32, y = yk + Int32.ofInt 1 := ⟨_, rfl⟩
              have i_x_159 : x_159.toInt = yk.toInt + 1 := by rw [e_160, show Int32.ofInt 1 = 1 by decide]; exact (q_add (by rw [show (1 : Int32).toInt = 1 by decide]; omega) (by rw [show (1 : Int32).toInt = 1 by decide]; omega)).trans (by rw [show (1 : Int32).toInt = 1 by decide])
              refine lv_iinc (v := x_159) (lv' := [(2, .int x_159), (0, .ref a0), (1, .int a1)]) hx hb dX9_run_61 hl (k := 0) rfl e_160.symm (by decide) rfl (fun ls hl => ?_)
              refine lv_goto (tgt := 41) hx hb dX9_run_64 (by decide) ?_
              exfalso; omega
          | succ k ih =>
            intro yk g H locs ls hk v0 v1 v2 hG hS hl
            refine (hWW _ _ _).mpr ?_
            refine lv_iload_n hx hb dX9_run_41 rfl (lv_at hl 0 rfl) ?_
            refine lv_iload_n hx hb dX9_run_42 rfl (lv_at hl 2 rfl) ?_
            refine lv_icmp_ge (tgt := 67) hx hb dX9_run_43 (by decide) (fun c_161 => ?_) (fun c_161 => ?_)
            · skip
              have c_161 : a1.toInt ≤ yk.toInt := q_le c_161
              exact (hWW _ _ _).mp (kx yk g H locs ls (by omega) (by omega) (by omega) hG hS (lv_sub hl [0, 1, 2] rfl))
            · skip
              have c_161 : yk.toInt < a1.toInt := q_nle c_161
              refine lv_pc (pc2 := 46) rfl ?_
              refine lv_aload_n hx hb dX9_run_46 rfl (lv_at hl 1 rfl) ?_
              obtain ⟨r_162, r_164, r_166, r_168, v_170, v_171, r_172, r_174, r_176, r_178, r_180, r_182, r_184, v_186, r_188, r_190, r_192, r_194, at_196, h_163, h_165, h_167, h_169, h_173, h_175, h_177, h_179, h_181, h_183, h_185, h_187, h_189, h_191, h_193, h_195⟩ := gF_o1 hG k_a0
              refine va_get (D := D) (ci := 8) (v := .ref r_178) (C := RX9) (T := TX9) (N := 18) hx hb hts in9 hown hK (va_one at_196) 0 rfl rfl 9 (by decide) (hts (.fieldLink RX9 53 "RiverModel" "now" "LRiverModel$Course;") (List.mem_of_getElem? (i := 5) rfl)) (fun _ h9 => h9) rfl dX9_run_47 ?_
              refine lv_aload_n hx hb dX9_run_50 rfl (lv_at hl 1 rfl) ?_
              refine va_get (D := D) (ci := 8) (v := .ref r_164) (C := RX9) (T := TX9) (N := 18) hx hb hts in9 hown hK (va_one at_196) 0 rfl rfl 1 (by decide) (hts (.fieldLink RX9 19 "RiverModel" "model" "LRiverModel$Model;") (List.mem_of_getElem? (i := 7) rfl)) (fun _ h9 => h9) rfl dX9_run_51 ?_
              refine lv_aload_n hx hb dX9_run_54 rfl (lv_at hl 1 rfl) ?_
              refine va_get (D := D) (ci := 8) (v := .ref r_172) (C := RX9) (T := TX9) (N := 18) hx hb hts in9 hown hK (va_one at_196) 0 rfl rfl 6 (by decide) (hts (.fieldLink RX9 39 "RiverModel" "skyA" "LRiverModel$Sky;") (List.mem_of_getElem? (i := 8) rfl)) (fun _ h9 => h9) rfl dX9_run_55 ?_
              obtain ⟨r_197, r_199, r_201, r_203, v_205, v_206, v_207, v_208, at_210, h_198, h_200, h_202, h_204, h_209⟩ := gF_o5 hG h_179
              refine ty_callv ((W.runV (As := [.ref r_164, .ref r_172]) (rest := []) ⟨hx, hb, hml, hown, hts⟩ (s_X0_goHourBy l D t cI cL cC gC gE g gW gA r_178 r_164 r_172 (by omega) h_179 h_165 h_173) (cwV 2 hts gu_X9_run_X0_goHourBy_151 rfl rfl rfl (by decide +kernel) ⟨Nat.le_of_ble_eq_true rfl, Nat.le_of_ble_eq_true rfl⟩) (tP_V hG hE at_210 rfl) rfl rfl hl.1 rfl (lv_room (Nat.le_of_ble_eq_true rfl)) dX9_run_58 ⟨Nat.le_of_ble_eq_true rfl, Nat.le_of_ble_eq_true rfl⟩)) hS (fun _ h => h) (fun H locs hp_212 hG hS o_213 => ?_)
              have at_196 := va_at.keptC at_196 o_213 k_a0 rfl
              obtain ⟨x_214, e_215⟩ : ∃ y : Int32, y = yk + Int32.ofInt 1 := ⟨_, rfl⟩
              have i_x_214 : x_214.toInt = yk.toInt + 1 := by rw [e_215, show Int32.ofInt 1 = 1 by decide]; exact (q_add (by rw [show (1 : Int32).toInt = 1 by decide]; omega) (by rw [show (1 : Int32).toInt = 1 by decide]; omega)).trans (by rw [show (1 : Int32).toInt = 1 by decide])
              refine lv_iinc (v := x_214) (lv' := [(2, .int x_214), (0, .ref a0), (1, .int a1)]) hx hb dX9_run_61 hl (k := 0) rfl e_215.symm (by decide) rfl (fun ls hl => ?_)
              refine lv_pc (pc2 := 64) rfl ?_
              refine lv_goto (tgt := 41) hx hb dX9_run_64 (by decide) ?_
              exact (hWW _ _ _).mp (ih x_214 (g + 1) H locs ls (by omega) (by omega) (by omega) (by omega) hG hS (lv_sub hl [0, 1, 2] rfl))
        have hz_yk : (0 : Int32).toInt = 0 := by decide
        exact loop (96 - 0 : Int).toNat 0 G H locs ls (by omega) (by omega) (by omega) (by omega) hG hS (lv_sub hl [0, 1, 2] rfl)
      · skip
        have c_56 : 96 < x_54.toInt := q_nle c_56
        refine lv_bipush (v := (-3)) hx hb dX9_run_36 (by decide) ?_
        exact ty_iret hx hb hr hlk (hG.weak (fun _ _ => gF_mono (by omega))) hS True.intro dX9_run_38
    · skip
      have c_39 : v_12.toInt = 0 := q_eq c_39
      refine lv_bipush (v := (-2)) hx hb dX9_run_19 (by decide) ?_
      exact ty_iret hx hb hr hlk (hG.weak (fun _ _ => gF_mono (by omega))) hS True.intro dX9_run_21

def uX9_fits : List Cond := .code yX9_fits cX9_fits 4 (some .int) :: ([.fieldLink RX9 29 "RiverModel" "isBuilt" "Z", .fieldLink RX9 81 "RiverModel" "knobs" "LRiverModel$Knobs;", .methodLink RX9 239 yX3_points, .instanceMethod yX3_points, .selects RX3 yX3_points yX3_points, .initialized RX3, .methodLink RX9 243 yX9_pointHolds, .instanceMethod yX9_pointHolds, .selects RX9 yX9_pointHolds yX9_pointHolds, .initialized RX9, .code yX3_points cX3_points 1 (some .int), .methodLink RX3 40 yX3_pointsOf, .instanceMethod yX3_pointsOf, .selects RX3 yX3_pointsOf yX3_pointsOf, .code yX3_pointsOf cX3_pointsOf 2 (some .int), .methodLink RX3 37 yX3_isSet, .instanceMethod yX3_isSet, .selects RX3 yX3_isSet yX3_isSet, .fieldLink RX3 24 "RiverModel$Knobs" "manys" "[I", .code yX3_isSet cX3_isSet 2 (some .boolean), .code yX9_pointHolds cX9_pointHolds 4 (some .boolean), .fieldLink RX9 23 "RiverModel" "draft" "LRiverModel$Model;", .fieldLink RX9 19 "RiverModel" "model" "LRiverModel$Model;", .methodLink RX9 316 yX4_copyFrom, .instanceMethod yX4_copyFrom, .selects RX4 yX4_copyFrom yX4_copyFrom, .initialized RX4, .methodLink RX9 350 yX3_lay, .instanceMethod yX3_lay, .selects RX3 yX3_lay yX3_lay, .fieldLink RX9 57 "RiverModel" "trial" "LRiverModel$Course;", .methodLink RX9 147 yX0_begin, .instanceMethod yX0_begin, .selects RX0 yX0_begin yX0_begin, .initialized RX0, .fieldLink RX9 74 "RiverModel" "gauges" "LRiverModel$Gauges;", .methodLink RX9 354 yX1_lastSeen, .instanceMethod yX1_lastSeen, .selects RX1 yX1_lastSeen yX1_lastSeen, .initialized RX1, .fieldLink RX9 39 "RiverModel" "skyA" "LRiverModel$Sky;", .methodLink RX9 357 yX6_rainIn, .instanceMethod yX6_rainIn, .selects RX6 yX6_rainIn yX6_rainIn, .initialized RX6, .methodLink RX9 360 yX6_tempIn, .instanceMethod yX6_tempIn, .selects RX6 yX6_tempIn yX6_tempIn, .methodLink RX9 363 yX0_goHour, .instanceMethod yX0_goHour, .selects RX0 yX0_goHour yX0_goHour, .methodLink RX9 367 yX1_agree, .instanceMethod yX1_agree, .selects RX1 yX1_agree yX1_agree, .code yX4_copyFrom cX4_copyFrom 2 none, .fieldLink RX4 9 "RiverModel$Model" "cells" "[I", .methodLink RX4 37 arraycopyName, .native arraycopyName, .static arraycopyName, .initialized "java/lang/System", .fieldLink RX4 15 "RiverModel$Model" "storeItems" "[I", .fieldLink RX4 18 "RiverModel$Model" "gateItems" "[I", .fieldLink RX4 21 "RiverModel$Model" "many" "I", .fieldLink RX4 25 "RiverModel$Model" "stores" "I", .fieldLink RX4 28 "RiverModel$Model" "gates" "I", .code yX3_lay cX3_lay 4 (some .boolean), .fieldLink RX3 9 "RiverModel$Knobs" "items" "[I", .methodLink RX3 63 yX4_isItemAsTold, .instanceMethod yX4_isItemAsTold, .selects RX4 yX4_isItemAsTold yX4_isItemAsTold, .fieldLink RX3 15 "RiverModel$Knobs" "numbers" "[I", .methodLink RX3 50 yX4_hasNumber, .instanceMethod yX4_hasNumber, .selects RX4 yX4_hasNumber yX4_hasNumber, .methodLink RX3 56 yX3_numberAt, .instanceMethod yX3_numberAt, .selects RX3 yX3_numberAt yX3_numberAt, .methodLink RX3 59 yX4_putCell, .instanceMethod yX4_putCell, .selects RX4 yX4_putCell yX4_putCell, .code yX4_isItemAsTold cX4_isItemAsTold 2 (some .boolean), .methodLink RX4 73 yX4_cell, .instanceMethod yX4_cell, .selects RX4 yX4_cell yX4_cell, .methodLink RX4 77 yX2_areNumbersAsTold, .static yX2_areNumbersAsTold, .initialized RX2, .code yX4_cell cX4_cell 3 (some .int), .code yX2_areNumbersAsTold cX2_areNumbersAsTold 4 (some .boolean), .methodLink RX2 10 yX2_isUpTo, .static yX2_isUpTo, .constant RX2 9 (1000000), .code yX2_isUpTo cX2_isUpTo 2 (some .boolean), .code yX4_hasNumber cX4_hasNumber 3 (some .boolean), .methodLink RX4 86 yX2_numbersOf, .static yX2_numbersOf, .code yX2_numbersOf cX2_numbersOf 1 (some .int), .code yX3_numberAt cX3_numberAt 4 (some .int), .static yX9_isNoKnob, .methodLink RX3 44 Lib.Math.max.name, .static Lib.Math.max.name, .initialized "java/lang/Math", .code Lib.Math.max.name Lib.Math.max.code 2 (some .int), .fieldLink RX3 18 "RiverModel$Knobs" "froms" "[I", .fieldLink RX3 21 "RiverModel$Knobs" "steps" "[I", .code yX9_isNoKnob cX9_isNoKnob 1 (some .boolean), .code yX4_putCell cX4_putCell 4 none, .static yX9_isNoItem, .static yX9_isOutside, .code yX9_isNoItem cX9_isNoItem 1 (some .boolean), .code yX9_isOutside cX9_isOutside 3 (some .boolean), .code yX0_begin cX0_begin 3 none, .fieldLink RX0 15 "RiverModel$Course" "moved" "[J", .methodLink RX0 45 yJ7_fill_d0a16, .static yJ7_fill_d0a16, .initialized RJ7, .fieldLink RX0 18 "RiverModel$Course" "openings" "[I", .methodLink RX0 51 yJ7_fill_53178, .static yJ7_fill_53178, .fieldLink RX0 22 "RiverModel$Course" "due" "[J", .fieldLink RX0 25 "RiverModel$Course" "rained" "J", .fieldLink RX0 29 "RiverModel$Course" "air" "J", .fieldLink RX0 32 "RiverModel$Course" "sea" "J", .fieldLink RX0 35 "RiverModel$Course" "hours" "I", .fieldLink RX0 9 "RiverModel$Course" "held" "[J", .methodLink RX0 39 yX4_startOf, .instanceMethod yX4_startOf, .selects RX4 yX4_startOf yX4_startOf, .code yJ7_fill_d0a16 cJ7_fill_d0a16 5 none, .code yJ7_fill_53178 cJ7_fill_53178 4 none, .code yX4_startOf cX4_startOf 2 (some .int), .methodLink RX4 66 yX4_hasStore, .instanceMethod yX4_hasStore, .selects RX4 yX4_hasStore yX4_hasStore, .code yX4_hasStore cX4_hasStore 2 (some .boolean), .code yX1_lastSeen cX1_lastSeen 3 (some .int), .fieldLink RX1 18 "RiverModel$Gauges" "seen" "[I", .methodLink RX1 67 Lib.Math.max.name, .code yX6_rainIn cX6_rainIn 2 (some .int), .fieldLink RX6 9 "RiverModel$Sky" "rains" "[I", .code yX6_tempIn cX6_tempIn 2 (some .int), .fieldLink RX6 15 "RiverModel$Sky" "temps" "[I", .code yX0_goHour cX0_goHour 7 none, .methodLink RX0 72 yX0_bringDue, .instanceMethod yX0_bringDue, .selects RX0 yX0_bringDue yX0_bringDue, .fieldLink RX0 75 "RiverModel$Model" "many" "I", .methodLink RX0 78 yX0_amountOf, .instanceMethod yX0_amountOf, .selects RX0 yX0_amountOf yX0_amountOf, .methodLink RX0 82 yX0_move, .instanceMethod yX0_move, .selects RX0 yX0_move yX0_move, .code yX0_bringDue cX0_bringDue 3 none, .code yX0_amountOf cX0_amountOf 11 (some .long), .methodLink RX0 86 yX4_cell, .static yX9_isNoStore, .methodLink RX0 110 yX4_gateOf, .instanceMethod yX4_gateOf, .selects RX4 yX4_gateOf yX4_gateOf, .methodLink RX0 113 yX0_openingOf, .instanceMethod yX0_openingOf, .selects RX0 yX0_openingOf yX0_openingOf, .methodLink RX0 107 Lib.MathLoose.min_long.x, .static Lib.MathLoose.min_long.x, .code Lib.MathLoose.min_long.x Lib.MathLoose.min_long.code 4 (some .long), .methodLink RX0 94 yX0_leakOf, .static yX0_leakOf, .constantLong RX0 117 (100), .methodLink RX0 98 yX4_capacityOf, .instanceMethod yX4_capacityOf, .selects RX4 yX4_capacityOf yX4_capacityOf, .methodLink RX0 101 Lib.MathLoose.max_long.x, .static Lib.MathLoose.max_long.x, .code Lib.MathLoose.max_long.x Lib.MathLoose.max_long.code 4 (some .long), .constantLong RX0 119 (10), .code yX9_isNoStore cX9_isNoStore 1 (some .boolean), .code yX4_gateOf cX4_gateOf 3 (some .int), .code yX0_openingOf cX0_openingOf 2 (some .long), .static yX9_isNoGate, .code yX9_isNoGate cX9_isNoGate 1 (some .boolean), .code yX0_leakOf cX0_leakOf 8 (some .long), .code yX4_capacityOf cX4_capacityOf 2 (some .int), .code yX0_move cX0_move 8 none, .methodLink RX0 124 yX0_send, .instanceMethod yX0_send, .selects RX0 yX0_send yX0_send, .code yX0_send cX0_send 5 none, .code yX1_agree cX1_agree 5 (some .boolean), .methodLink RX1 57 yX1_reading, .instanceMethod yX1_reading, .selects RX1 yX1_reading yX1_reading, .methodLink RX1 61 Lib.MathLoose.abs_long.x, .static Lib.MathLoose.abs_long.x, .code Lib.MathLoose.abs_long.x Lib.MathLoose.abs_long.code 2 (some .long), .fieldLink RX1 21 "RiverModel$Gauges" "mayBeOff" "I", .code yX1_reading cX1_reading 4 (some .long), .methodLink RX1 35 yX1_isSet, .instanceMethod yX1_isSet, .selects RX1 yX1_isSet yX1_isSet, .fieldLink RX1 15 "RiverModel$Gauges" "places" "[I", .fieldLink RX1 9 "RiverModel$Gauges" "whats" "[I", .fieldLink RX1 50 "RiverModel$Course" "held" "[J", .fieldLink RX1 41 "RiverModel$Course" "moved" "[J", .code yX1_isSet cX1_isSet 2 (some .boolean)] ++ wsX90 ++ wsX30 ++ wsX40 ++ wsX00 ++ wsX10 ++ wsX60)
set_option maxRecDepth 20000 in
theorem gu_X9_fits_X3_points_239 : GoodIn uX9_fits (wsV RX9 239 RX3 yX3_points uX3_points) := goodIn_r _ [3, 4, 5, 6, 11, 12, 13, 14, 6, 15, 16, 17, 18, 19, 20, 224, 225, 226, 227, 228] rfl (by decide +kernel)
set_option maxRecDepth 20000 in
theorem gu_X9_fits_X9_pointHolds_243 : GoodIn uX9_fits (wsV RX9 243 RX9 yX9_pointHolds uX9_pointHolds) := goodIn_r _ [7, 8, 9, 10, 21, 22, 23, 24, 25, 26, 27, 2, 28, 29, 30, 6, 31, 32, 33, 34, 35, 36, 37, 38, 39, 40, 41, 42, 43, 44, 45, 46, 47, 48, 49, 50, 51, 52, 53, 54, 55, 56, 57, 58, 59, 60, 61, 62, 63, 64, 65, 66, 16, 17, 18, 67, 68, 69, 70, 71, 72, 73, 74, 75, 76, 77, 78, 79, 80, 20, 19, 81, 82, 83, 84, 85, 86, 87, 88, 89, 90, 91, 92, 93, 94, 95, 96, 97, 98, 10, 99, 12, 13, 14, 100, 101, 102, 103, 104, 105, 106, 15, 107, 108, 109, 110, 111, 112, 113, 114, 115, 116, 117, 118, 119, 120, 121, 122, 123, 124, 125, 126, 127, 128, 129, 130, 131, 132, 133, 134, 135, 136, 137, 138, 139, 140, 141, 142, 143, 144, 145, 146, 147, 148, 149, 150, 151, 152, 153, 154, 155, 156, 157, 158, 159, 160, 161, 162, 163, 164, 165, 166, 167, 168, 169, 170, 171, 172, 173, 174, 175, 176, 177, 178, 179, 180, 181, 182, 183, 184, 185, 186, 187, 188, 189, 190, 191, 192, 193, 194, 195, 196, 197, 198, 199, 200, 201, 202, 203, 204, 205, 206, 207, 208, 209, 210, 211, 212, 213, 214, 215, 216, 217, 218, 219, 220, 221, 222, 223, 229, 230, 231, 232, 233, 234, 224, 225, 226, 227, 228, 235, 236, 237, 238, 239, 240, 241, 242, 243, 244, 245, 246, 247, 248] rfl (by decide +kernel)
set_option maxHeartbeats 4000000 in
set_option maxRecDepth 100000 in
theorem s_X9_fits (l : Launch) (D : va_G) (t : Nat → Nat) (cI cL cC : ClassId) (gC : Int32) (gE : Int32) (G : Nat) (gW : Nat → Int32) (gA : Nat → Int32) (a0 : Nat) (hGb : G ≤ 100000000) (k_a0 : t a0 = 1) : tM l yX9_fits uX9_fits 5 122 D (gF cI cL cC gC gE G gW gA) (gF cI cL cC gC gE (G + 24576) gW gA) t cI cL cC [.ref a0] wrAll (pI (fun r => True)) := by
  refine tM.ofW (cc := cX9_fits) (maxL := 4) (ret := (some .int)) (by decide) rfl (Nat.le_of_ble_eq_true rfl) ?_
  intro p e s m below meth c hx hb hr hml hown hts hlk H locs hG hK hE hS ls hl
  have hl : lv_has ls 4 [(0, .ref a0)] := hl
  have in9 : ∀ w ∈ wsX90, w ∈ uX9_fits := fun w h => List.mem_cons_of_mem _ (List.mem_append_left _ (List.mem_append_left _ (List.mem_append_left _ (List.mem_append_left _ (List.mem_append_left _ (List.mem_append_right _ h))))))
  refine lv_aload_n hx hb dX9_fits_0 rfl (lv_at hl 0 rfl) ?_
  obtain ⟨r_1, r_3, r_5, r_7, v_9, v_10, r_11, r_13, r_15, r_17, r_19, r_21, r_23, v_25, r_27, r_29, r_31, r_33, at_35, h_2, h_4, h_6, h_8, h_12, h_14, h_16, h_18, h_20, h_22, h_24, h_26, h_28, h_30, h_32, h_34⟩ := gF_o1 hG k_a0
  refine va_get (D := D) (ci := 8) (v := .int v_9) (C := RX9) (T := TX9) (N := 18) hx hb hts in9 hown hK (va_one at_35) 0 rfl rfl 4 (by decide) (hts (.fieldLink RX9 29 "RiverModel" "isBuilt" "Z") (List.mem_of_getElem? (i := 1) rfl)) (fun _ h9 => h9) rfl dX9_fits_1 ?_
  refine lv_if_ne (tgt := 10) hx hb dX9_fits_4 (by decide) (fun c_36 => ?_) (fun c_36 => ?_)
  · skip
    have c_36 : v_9.toInt ≠ 0 := q_ne c_36
    refine lv_iconst (v := 0) hx hb dX9_fits_10 (by decide) ?_
    refine lv_istore_n (lv' := [(1, .int 0), (0, .ref a0)]) hx hb dX9_fits_11 rfl hl (by decide) rfl (fun ls hl => ?_)
    refine lv_aload_n hx hb dX9_fits_12 rfl (lv_at hl 1 rfl) ?_
    refine va_get (D := D) (ci := 8) (v := .ref r_29) (C := RX9) (T := TX9) (N := 18) hx hb hts in9 hown hK (va_one at_35) 0 rfl rfl 15 (by decide) (hts (.fieldLink RX9 81 "RiverModel" "knobs" "LRiverModel$Knobs;") (List.mem_of_getElem? (i := 2) rfl)) (fun _ h9 => h9) rfl dX9_fits_13 ?_
    refine lv_pc (pc2 := 16) rfl ?_
    obtain ⟨r_37, r_39, r_41, r_43, r_45, at_47, h_38, h_40, h_42, h_44, h_46⟩ := gF_o7 hG h_30
    refine ty_calli ((W.runV (As := []) (rest := []) ⟨hx, hb, hml, hown, hts⟩ (s_X3_points l D t cI cL cC gC gE G gW gA r_29 h_30) (cwV 0 hts gu_X9_fits_X3_points_239 rfl rfl rfl (by decide +kernel) ⟨Nat.le_of_ble_eq_true rfl, Nat.le_of_ble_eq_true rfl⟩) (tP_V hG hE at_47 rfl) rfl rfl hl.1 rfl (lv_room (Nat.le_of_ble_eq_true rfl)) dX9_fits_16 ⟨Nat.le_of_ble_eq_true rfl, Nat.le_of_ble_eq_true rfl⟩)) hS (fun k h => by simp [wr0] at h) (fun r_48 H locs hp_49 hG hS o_50 => ?_)
    have at_35 := va_at.keptC at_35 o_50 k_a0 rfl
    have at_47 := va_at.keptC at_47 o_50 h_30 rfl
    have hp_49 := hp_49
    refine lv_istore_n (lv' := [(2, .int r_48), (1, .int 0), (0, .ref a0)]) hx hb dX9_fits_19 rfl hl (by decide) rfl (fun ls hl => ?_)
    refine lv_iconst (v := 0) hx hb dX9_fits_20 (by decide) ?_
    refine lv_istore_n (lv' := [(3, .int 0), (2, .int r_48), (1, .int 0), (0, .ref a0)]) hx hb dX9_fits_21 rfl hl (by decide) rfl (fun ls hl => ?_)
    refine lv_pc (pc2 := 22) rfl ?_
    refine lp_gen (fun WW hWW => ?_)
    have kx : ∀ (yp : Int32) (yh : Int32) (g : Nat) (H1 : Heap) (locs1 : List Loc) (ls1 : Array Slot), 0 ≤ yp.toInt → yp.toInt ≤ 256 → (g : Int) + 96 * (256 - yp.toInt) ≤ (G : Int) + 24576 → tG D (gF cI cL cC gC gE g gW gA) t H1 → tF t wrAll s.heap H1 locs1 → lv_has ls1 4 [(3, .int yp), (2, .int r_48), (1, .int yh), (0, .ref a0)] → WW H1 locs1 (F0 m 44 ls1 []) := by
      intro yp yh g H locs ls v0 v1 v2 hG hS hl
      refine (hWW _ _ _).mpr ?_
      refine lv_iload_n hx hb dX9_fits_44 rfl (lv_at hl 2 rfl) ?_
      exact ty_iret hx hb hr hlk (hG.weak (fun _ _ => gF_mono (by omega))) hS True.intro dX9_fits_45
    have loop : ∀ (k : Nat) (yp : Int32) (yh : Int32) (g : Nat) (H1 : Heap) (locs1 : List Loc) (ls1 : Array Slot), 256 - yp.toInt ≤ (k : Int) → 0 ≤ yp.toInt → yp.toInt ≤ 256 → (g : Int) + 96 * (256 - yp.toInt) ≤ (G : Int) + 24576 → tG D (gF cI cL cC gC gE g gW gA) t H1 → tF t wrAll s.heap H1 locs1 → lv_has ls1 4 [(3, .int yp), (2, .int r_48), (1, .int yh), (0, .ref a0)] → WW H1 locs1 (F0 m 22 ls1 []) := by
      intro k
      induction k with
      | zero =>
        intro yp yh g H locs ls hk v0 v1 v2 hG hS hl
        refine (hWW _ _ _).mpr ?_
        refine lv_iload_n hx hb dX9_fits_22 rfl (lv_at hl 0 rfl) ?_
        refine lv_iload_n hx hb dX9_fits_23 rfl (lv_at hl 1 rfl) ?_
        refine lv_pc (pc2 := 24) rfl ?_
        refine lv_icmp_ge (tgt := 44) hx hb dX9_fits_24 (by decide) (fun c_51 => ?_) (fun c_51 => ?_)
        · skip
          have c_51 : r_48.toInt ≤ yp.toInt := q_le c_51
          exact (hWW _ _ _).mp (kx yp yh g H locs ls (by omega) (by omega) (by omega) hG hS (lv_sub hl [0, 1, 2, 3] rfl))
        · skip
          have c_51 : yp.toInt < r_48.toInt := q_nle c_51
          refine lv_aload_n hx hb dX9_fits_27 rfl (lv_at hl 3 rfl) ?_
          refine lv_iload_n hx hb dX9_fits_28 rfl (lv_at hl 0 rfl) ?_
          obtain ⟨r_52, r_54, r_56, r_58, v_60, v_61, r_62, r_64, r_66, r_68, r_70, r_72, r_74, v_76, r_78, r_80, r_82, r_84, at_86, h_53, h_55, h_57, h_59, h_63, h_65, h_67, h_69, h_71, h_73, h_75, h_77, h_79, h_81, h_83, h_85⟩ := gF_o1 hG k_a0
          refine ty_calli ((W.runV (As := [.int yp]) (rest := []) ⟨hx, hb, hml, hown, hts⟩ (s_X9_pointHolds l D t cI cL cC gC gE g gW gA a0 yp (by omega) k_a0) (cwV 1 hts gu_X9_fits_X9_pointHolds_243 rfl rfl rfl (by decide +kernel) ⟨Nat.le_of_ble_eq_true rfl, Nat.le_of_ble_eq_true rfl⟩) (tP_V hG hE at_86 rfl) rfl rfl hl.1 rfl (lv_room (Nat.le_of_ble_eq_true rfl)) dX9_fits_29 ⟨Nat.le_of_ble_eq_true rfl, Nat.le_of_ble_eq_true rfl⟩)) hS (fun _ h => h) (fun r_87 H locs hp_88 hG hS o_89 => ?_)
          rcases hp_88 with rfl | rfl
          · skip
            refine lv_if_eq (tgt := 38) hx hb dX9_fits_32 (by decide) (fun _ => ?_) (fun q => absurd (by decide) q)
            obtain ⟨x_90, e_91⟩ : ∃ y : Int32, y = yp + Int32.ofInt 1 := ⟨_, rfl⟩
            have i_x_90 : x_90.toInt = yp.toInt + 1 := by rw [e_91, show Int32.ofInt 1 = 1 by decide]; exact (q_add (by rw [show (1 : Int32).toInt = 1 by decide]; omega) (by rw [show (1 : Int32).toInt = 1 by decide]; omega)).trans (by rw [show (1 : Int32).toInt = 1 by decide])
            refine lv_iinc (v := x_90) (lv' := [(3, .int x_90), (2, .int r_48), (1, .int yh), (0, .ref a0)]) hx hb dX9_fits_38 hl (k := 0) rfl e_91.symm (by decide) rfl (fun ls hl => ?_)
            refine lv_goto (tgt := 22) hx hb dX9_fits_41 (by decide) ?_
            exfalso; omega
          · skip
            refine lv_if_eq (tgt := 38) hx hb dX9_fits_32 (by decide) (fun q => absurd q (by decide)) (fun _ => ?_)
            refine lv_pc (pc2 := 35) rfl ?_
            obtain ⟨x_92, e_93⟩ : ∃ y : Int32, y = yh + Int32.ofInt 1 := ⟨_, rfl⟩
            refine lv_iinc (v := x_92) (lv' := [(1, .int x_92), (3, .int yp), (2, .int r_48), (0, .ref a0)]) hx hb dX9_fits_35 hl (k := 2) rfl e_93.symm (by decide) rfl (fun ls hl => ?_)
            obtain ⟨x_94, e_95⟩ : ∃ y : Int32, y = yp + Int32.ofInt 1 := ⟨_, rfl⟩
            have i_x_94 : x_94.toInt = yp.toInt + 1 := by rw [e_95, show Int32.ofInt 1 = 1 by decide]; exact (q_add (by rw [show (1 : Int32).toInt = 1 by decide]; omega) (by rw [show (1 : Int32).toInt = 1 by decide]; omega)).trans (by rw [show (1 : Int32).toInt = 1 by decide])
            refine lv_iinc (v := x_94) (lv' := [(3, .int x_94), (1, .int x_92), (2, .int r_48), (0, .ref a0)]) hx hb dX9_fits_38 hl (k := 1) rfl e_95.symm (by decide) rfl (fun ls hl => ?_)
            refine lv_goto (tgt := 22) hx hb dX9_fits_41 (by decide) ?_
            exfalso; omega
      | succ k ih =>
        intro yp yh g H locs ls hk v0 v1 v2 hG hS hl
        refine (hWW _ _ _).mpr ?_
        refine lv_iload_n hx hb dX9_fits_22 rfl (lv_at hl 0 rfl) ?_
        refine lv_iload_n hx hb dX9_fits_23 rfl (lv_at hl 1 rfl) ?_
        refine lv_icmp_ge (tgt := 44) hx hb dX9_fits_24 (by decide) (fun c_96 => ?_) (fun c_96 => ?_)
        · skip
          have c_96 : r_48.toInt ≤ yp.toInt := q_le c_96
          exact (hWW _ _ _).mp (kx yp yh g H locs ls (by omega) (by omega) (by omega) hG hS (lv_sub hl [0, 1, 2, 3] rfl))
        · skip
          have c_96 : yp.toInt < r_48.toInt := q_nle c_96
          refine lv_aload_n hx hb dX9_fits_27 rfl (lv_at hl 3 rfl) ?_
          refine lv_iload_n hx hb dX9_fits_28 rfl (lv_at hl 0 rfl) ?_
          refine lv_pc (pc2 := 29) rfl ?_
          obtain ⟨r_97, r_99, r_101, r_103, v_105, v_106, r_107, r_109, r_111, r_113, r_115, r_117, r_119, v_121, r_123, r_125, r_127, r_129, at_131, h_98, h_100, h_102, h_104, h_108, h_110, h_112, h_114, h_116, h_118, h_120, h_122, h_124, h_126, h_128, h_130⟩ := gF_o1 hG k_a0
          refine ty_calli ((W.runV (As := [.int yp]) (rest := []) ⟨hx, hb, hml, hown, hts⟩ (s_X9_pointHolds l D t cI cL cC gC gE g gW gA a0 yp (by omega) k_a0) (cwV 1 hts gu_X9_fits_X9_pointHolds_243 rfl rfl rfl (by decide +kernel) ⟨Nat.le_of_ble_eq_true rfl, Nat.le_of_ble_eq_true rfl⟩) (tP_V hG hE at_131 rfl) rfl rfl hl.1 rfl (lv_room (Nat.le_of_ble_eq_true rfl)) dX9_fits_29 ⟨Nat.le_of_ble_eq_true rfl, Nat.le_of_ble_eq_true rfl⟩)) hS (fun _ h => h) (fun r_132 H locs hp_133 hG hS o_134 => ?_)
          rcases hp_133 with rfl | rfl
          · skip
            refine lv_if_eq (tgt := 38) hx hb dX9_fits_32 (by decide) (fun _ => ?_) (fun q => absurd (by decide) q)
            obtain ⟨x_135, e_136⟩ : ∃ y : Int32, y = yp + Int32.ofInt 1 := ⟨_, rfl⟩
            have i_x_135 : x_135.toInt = yp.toInt + 1 := by rw [e_136, show Int32.ofInt 1 = 1 by decide]; exact (q_add (by rw [show (1 : Int32).toInt = 1 by decide]; omega) (by rw [show (1 : Int32).toInt = 1 by decide]; omega)).trans (by rw [show (1 : Int32).toInt = 1 by decide])
            refine lv_iinc (v := x_135) (lv' := [(3, .int x_135), (2, .int r_48), (1, .int yh), (0, .ref a0)]) hx hb dX9_fits_38 hl (k := 0) rfl e_136.symm (by decide) rfl (fun ls hl => ?_)
            refine lv_goto (tgt := 22) hx hb dX9_fits_41 (by decide) ?_
            exact (hWW _ _ _).mp (ih x_135 yh (g + 96) H locs ls (by omega) (by omega) (by omega) (by omega) hG hS (lv_sub hl [0, 1, 2, 3] rfl))
          · skip
            refine lv_if_eq (tgt := 38) hx hb dX9_fits_32 (by decide) (fun q => absurd q (by decide)) (fun _ => ?_)
            obtain ⟨x_137, e_138⟩ : ∃ y : Int32, y = yh + Int32.ofInt 1 := ⟨_, rfl⟩
            refine lv_iinc (v := x_137) (lv' := [(1, .int x_137), (3, .int yp), (2, .int r_48), (0, .ref a0)]) hx hb dX9_fits_35 hl (k := 2) rfl e_138.symm (by decide) rfl (fun ls hl => ?_)
            obtain ⟨x_139, e_140⟩ : ∃ y : Int32, y = yp + Int32.ofInt 1 := ⟨_, rfl⟩
            have i_x_139 : x_139.toInt = yp.toInt + 1 := by rw [e_140, show Int32.ofInt 1 = 1 by decide]; exact (q_add (by rw [show (1 : Int32).toInt = 1 by decide]; omega) (by rw [show (1 : Int32).toInt = 1 by decide]; omega)).trans (by rw [show (1 : Int32).toInt = 1 by decide])
            refine lv_iinc (v := x_139) (lv' := [(3, .int x_139), (1, .int x_137), (2, .int r_48), (0, .ref a0)]) hx hb dX9_fits_38 hl (k := 1) rfl e_140.symm (by decide) rfl (fun ls hl => ?_)
            refine lv_goto (tgt := 22) hx hb dX9_fits_41 (by decide) ?_
            exact (hWW _ _ _).mp (ih x_139 x_137 (g + 96) H locs ls (by omega) (by omega) (by omega) (by omega) hG hS (lv_sub hl [0, 2, 1, 3] rfl))
    have hz_yp : (0 : Int32).toInt = 0 := by decide
    have hz_yh : (0 : Int32).toInt = 0 := by decide
    exact loop (256 - 0 : Int).toNat 0 0 G H locs ls (by omega) (by omega) (by omega) (by omega) hG hS (lv_sub hl [0, 1, 2, 3] rfl)
  · skip
    have c_36 : v_9.toInt = 0 := q_eq c_36
    refine lv_pc (pc2 := 7) rfl ?_
    refine lv_bipush (v := (-2)) hx hb dX9_fits_7 (by decide) ?_
    exact ty_iret hx hb hr hlk (hG.weak (fun _ _ => gF_mono (by omega))) hS True.intro dX9_fits_9

def uX9_fit : List Cond := .code yX9_fit cX9_fit 4 (some .int) :: ([.methodLink RX9 228 yX9_isNoKnob, .static yX9_isNoKnob, .initialized RX9, .fieldLink RX9 29 "RiverModel" "isBuilt" "Z", .fieldLink RX9 81 "RiverModel" "knobs" "LRiverModel$Knobs;", .methodLink RX9 246 yX3_isSet, .instanceMethod yX3_isSet, .selects RX3 yX3_isSet yX3_isSet, .initialized RX3, .methodLink RX9 249 yX9_holdingPoint, .instanceMethod yX9_holdingPoint, .selects RX9 yX9_holdingPoint yX9_holdingPoint, .methodLink RX9 253 yX3_numberAt, .instanceMethod yX3_numberAt, .selects RX3 yX3_numberAt yX3_numberAt, .code yX9_isNoKnob cX9_isNoKnob 1 (some .boolean), .code yX3_isSet cX3_isSet 2 (some .boolean), .fieldLink RX3 24 "RiverModel$Knobs" "manys" "[I", .code yX9_holdingPoint cX9_holdingPoint 5 (some .int), .methodLink RX9 239 yX3_points, .instanceMethod yX3_points, .selects RX3 yX3_points yX3_points, .methodLink RX9 243 yX9_pointHolds, .instanceMethod yX9_pointHolds, .selects RX9 yX9_pointHolds yX9_pointHolds, .code yX3_points cX3_points 1 (some .int), .methodLink RX3 40 yX3_pointsOf, .instanceMethod yX3_pointsOf, .selects RX3 yX3_pointsOf yX3_pointsOf, .code yX3_pointsOf cX3_pointsOf 2 (some .int), .methodLink RX3 37 yX3_isSet, .code yX9_pointHolds cX9_pointHolds 4 (some .boolean), .fieldLink RX9 23 "RiverModel" "draft" "LRiverModel$Model;", .fieldLink RX9 19 "RiverModel" "model" "LRiverModel$Model;", .methodLink RX9 316 yX4_copyFrom, .instanceMethod yX4_copyFrom, .selects RX4 yX4_copyFrom yX4_copyFrom, .initialized RX4, .methodLink RX9 350 yX3_lay, .instanceMethod yX3_lay, .selects RX3 yX3_lay yX3_lay, .fieldLink RX9 57 "RiverModel" "trial" "LRiverModel$Course;", .methodLink RX9 147 yX0_begin, .instanceMethod yX0_begin, .selects RX0 yX0_begin yX0_begin, .initialized RX0, .fieldLink RX9 74 "RiverModel" "gauges" "LRiverModel$Gauges;", .methodLink RX9 354 yX1_lastSeen, .instanceMethod yX1_lastSeen, .selects RX1 yX1_lastSeen yX1_lastSeen, .initialized RX1, .fieldLink RX9 39 "RiverModel" "skyA" "LRiverModel$Sky;", .methodLink RX9 357 yX6_rainIn, .instanceMethod yX6_rainIn, .selects RX6 yX6_rainIn yX6_rainIn, .initialized RX6, .methodLink RX9 360 yX6_tempIn, .instanceMethod yX6_tempIn, .selects RX6 yX6_tempIn yX6_tempIn, .methodLink RX9 363 yX0_goHour, .instanceMethod yX0_goHour, .selects RX0 yX0_goHour yX0_goHour, .methodLink RX9 367 yX1_agree, .instanceMethod yX1_agree, .selects RX1 yX1_agree yX1_agree, .code yX4_copyFrom cX4_copyFrom 2 none, .fieldLink RX4 9 "RiverModel$Model" "cells" "[I", .methodLink RX4 37 arraycopyName, .native arraycopyName, .static arraycopyName, .initialized "java/lang/System", .fieldLink RX4 15 "RiverModel$Model" "storeItems" "[I", .fieldLink RX4 18 "RiverModel$Model" "gateItems" "[I", .fieldLink RX4 21 "RiverModel$Model" "many" "I", .fieldLink RX4 25 "RiverModel$Model" "stores" "I", .fieldLink RX4 28 "RiverModel$Model" "gates" "I", .code yX3_lay cX3_lay 4 (some .boolean), .fieldLink RX3 9 "RiverModel$Knobs" "items" "[I", .methodLink RX3 63 yX4_isItemAsTold, .instanceMethod yX4_isItemAsTold, .selects RX4 yX4_isItemAsTold yX4_isItemAsTold, .fieldLink RX3 15 "RiverModel$Knobs" "numbers" "[I", .methodLink RX3 50 yX4_hasNumber, .instanceMethod yX4_hasNumber, .selects RX4 yX4_hasNumber yX4_hasNumber, .methodLink RX3 56 yX3_numberAt, .methodLink RX3 59 yX4_putCell, .instanceMethod yX4_putCell, .selects RX4 yX4_putCell yX4_putCell, .code yX4_isItemAsTold cX4_isItemAsTold 2 (some .boolean), .methodLink RX4 73 yX4_cell, .instanceMethod yX4_cell, .selects RX4 yX4_cell yX4_cell, .methodLink RX4 77 yX2_areNumbersAsTold, .static yX2_areNumbersAsTold, .initialized RX2, .code yX4_cell cX4_cell 3 (some .int), .code yX2_areNumbersAsTold cX2_areNumbersAsTold 4 (some .boolean), .methodLink RX2 10 yX2_isUpTo, .static yX2_isUpTo, .constant RX2 9 (1000000), .code yX2_isUpTo cX2_isUpTo 2 (some .boolean), .code yX4_hasNumber cX4_hasNumber 3 (some .boolean), .methodLink RX4 86 yX2_numbersOf, .static yX2_numbersOf, .code yX2_numbersOf cX2_numbersOf 1 (some .int), .code yX3_numberAt cX3_numberAt 4 (some .int), .methodLink RX3 44 Lib.Math.max.name, .static Lib.Math.max.name, .initialized "java/lang/Math", .code Lib.Math.max.name Lib.Math.max.code 2 (some .int), .fieldLink RX3 18 "RiverModel$Knobs" "froms" "[I", .fieldLink RX3 21 "RiverModel$Knobs" "steps" "[I", .code yX4_putCell cX4_putCell 4 none, .static yX9_isNoItem, .static yX9_isOutside, .code yX9_isNoItem cX9_isNoItem 1 (some .boolean), .code yX9_isOutside cX9_isOutside 3 (some .boolean), .code yX0_begin cX0_begin 3 none, .fieldLink RX0 15 "RiverModel$Course" "moved" "[J", .methodLink RX0 45 yJ7_fill_d0a16, .static yJ7_fill_d0a16, .initialized RJ7, .fieldLink RX0 18 "RiverModel$Course" "openings" "[I", .methodLink RX0 51 yJ7_fill_53178, .static yJ7_fill_53178, .fieldLink RX0 22 "RiverModel$Course" "due" "[J", .fieldLink RX0 25 "RiverModel$Course" "rained" "J", .fieldLink RX0 29 "RiverModel$Course" "air" "J", .fieldLink RX0 32 "RiverModel$Course" "sea" "J", .fieldLink RX0 35 "RiverModel$Course" "hours" "I", .fieldLink RX0 9 "RiverModel$Course" "held" "[J", .methodLink RX0 39 yX4_startOf, .instanceMethod yX4_startOf, .selects RX4 yX4_startOf yX4_startOf, .code yJ7_fill_d0a16 cJ7_fill_d0a16 5 none, .code yJ7_fill_53178 cJ7_fill_53178 4 none, .code yX4_startOf cX4_startOf 2 (some .int), .methodLink RX4 66 yX4_hasStore, .instanceMethod yX4_hasStore, .selects RX4 yX4_hasStore yX4_hasStore, .code yX4_hasStore cX4_hasStore 2 (some .boolean), .code yX1_lastSeen cX1_lastSeen 3 (some .int), .fieldLink RX1 18 "RiverModel$Gauges" "seen" "[I", .methodLink RX1 67 Lib.Math.max.name, .code yX6_rainIn cX6_rainIn 2 (some .int), .fieldLink RX6 9 "RiverModel$Sky" "rains" "[I", .code yX6_tempIn cX6_tempIn 2 (some .int), .fieldLink RX6 15 "RiverModel$Sky" "temps" "[I", .code yX0_goHour cX0_goHour 7 none, .methodLink RX0 72 yX0_bringDue, .instanceMethod yX0_bringDue, .selects RX0 yX0_bringDue yX0_bringDue, .fieldLink RX0 75 "RiverModel$Model" "many" "I", .methodLink RX0 78 yX0_amountOf, .instanceMethod yX0_amountOf, .selects RX0 yX0_amountOf yX0_amountOf, .methodLink RX0 82 yX0_move, .instanceMethod yX0_move, .selects RX0 yX0_move yX0_move, .code yX0_bringDue cX0_bringDue 3 none, .code yX0_amountOf cX0_amountOf 11 (some .long), .methodLink RX0 86 yX4_cell, .static yX9_isNoStore, .methodLink RX0 110 yX4_gateOf, .instanceMethod yX4_gateOf, .selects RX4 yX4_gateOf yX4_gateOf, .methodLink RX0 113 yX0_openingOf, .instanceMethod yX0_openingOf, .selects RX0 yX0_openingOf yX0_openingOf, .methodLink RX0 107 Lib.MathLoose.min_long.x, .static Lib.MathLoose.min_long.x, .code Lib.MathLoose.min_long.x Lib.MathLoose.min_long.code 4 (some .long), .methodLink RX0 94 yX0_leakOf, .static yX0_leakOf, .constantLong RX0 117 (100), .methodLink RX0 98 yX4_capacityOf, .instanceMethod yX4_capacityOf, .selects RX4 yX4_capacityOf yX4_capacityOf, .methodLink RX0 101 Lib.MathLoose.max_long.x, .static Lib.MathLoose.max_long.x, .code Lib.MathLoose.max_long.x Lib.MathLoose.max_long.code 4 (some .long), .constantLong RX0 119 (10), .code yX9_isNoStore cX9_isNoStore 1 (some .boolean), .code yX4_gateOf cX4_gateOf 3 (some .int), .code yX0_openingOf cX0_openingOf 2 (some .long), .static yX9_isNoGate, .code yX9_isNoGate cX9_isNoGate 1 (some .boolean), .code yX0_leakOf cX0_leakOf 8 (some .long), .code yX4_capacityOf cX4_capacityOf 2 (some .int), .code yX0_move cX0_move 8 none, .methodLink RX0 124 yX0_send, .instanceMethod yX0_send, .selects RX0 yX0_send yX0_send, .code yX0_send cX0_send 5 none, .code yX1_agree cX1_agree 5 (some .boolean), .methodLink RX1 57 yX1_reading, .instanceMethod yX1_reading, .selects RX1 yX1_reading yX1_reading, .methodLink RX1 61 Lib.MathLoose.abs_long.x, .static Lib.MathLoose.abs_long.x, .code Lib.MathLoose.abs_long.x Lib.MathLoose.abs_long.code 2 (some .long), .fieldLink RX1 21 "RiverModel$Gauges" "mayBeOff" "I", .code yX1_reading cX1_reading 4 (some .long), .methodLink RX1 35 yX1_isSet, .instanceMethod yX1_isSet, .selects RX1 yX1_isSet yX1_isSet, .fieldLink RX1 15 "RiverModel$Gauges" "places" "[I", .fieldLink RX1 9 "RiverModel$Gauges" "whats" "[I", .fieldLink RX1 50 "RiverModel$Course" "held" "[J", .fieldLink RX1 41 "RiverModel$Course" "moved" "[J", .code yX1_isSet cX1_isSet 2 (some .boolean)] ++ wsX90 ++ wsX30 ++ wsX40 ++ wsX00 ++ wsX10 ++ wsX60)
set_option maxRecDepth 20000 in
theorem gu_X9_fit_X9_isNoKnob_228 : GoodIn uX9_fit (va_wsS RX9 228 yX9_isNoKnob uX9_isNoKnob) := goodIn_r _ [1, 2, 3, 16] rfl (by decide +kernel)
set_option maxRecDepth 20000 in
theorem gu_X9_fit_X3_isSet_246 : GoodIn uX9_fit (wsV RX9 246 RX3 yX3_isSet uX3_isSet) := goodIn_r _ [6, 7, 8, 9, 17, 18, 231, 232, 233, 234, 235] rfl (by decide +kernel)
set_option maxRecDepth 20000 in
theorem gu_X9_fit_X9_holdingPoint_249 : GoodIn uX9_fit (wsV RX9 249 RX9 yX9_holdingPoint uX9_holdingPoint) := goodIn_r _ [10, 11, 12, 3, 19, 5, 20, 21, 22, 9, 23, 24, 25, 3, 26, 27, 28, 29, 30, 31, 7, 8, 18, 17, 32, 33, 34, 35, 36, 37, 38, 39, 40, 41, 42, 43, 44, 45, 46, 47, 48, 49, 50, 51, 52, 53, 54, 55, 56, 57, 58, 59, 60, 61, 62, 63, 64, 65, 66, 67, 68, 69, 70, 71, 72, 73, 74, 75, 76, 77, 78, 79, 80, 81, 82, 83, 84, 85, 86, 14, 15, 87, 88, 89, 90, 91, 92, 93, 94, 95, 96, 97, 98, 99, 100, 101, 102, 103, 104, 105, 106, 107, 2, 108, 109, 110, 111, 112, 113, 16, 114, 115, 116, 117, 118, 119, 120, 121, 122, 123, 124, 125, 126, 127, 128, 129, 130, 131, 132, 133, 134, 135, 136, 137, 138, 139, 140, 141, 142, 143, 144, 145, 146, 147, 148, 149, 150, 151, 152, 153, 154, 155, 156, 157, 158, 159, 160, 161, 162, 163, 164, 165, 166, 167, 168, 169, 170, 171, 172, 173, 174, 175, 176, 177, 178, 179, 180, 181, 182, 183, 184, 185, 186, 187, 188, 189, 190, 191, 192, 193, 194, 195, 196, 197, 198, 199, 200, 201, 202, 203, 204, 205, 206, 207, 208, 209, 210, 211, 212, 213, 214, 215, 216, 217, 218, 219, 220, 221, 222, 223, 224, 225, 226, 227, 228, 229, 230, 231, 232, 233, 234, 235, 236, 237, 238, 239, 240, 241, 242, 243, 244, 245, 246, 247, 248, 249, 250, 251, 252, 253, 254, 255] rfl (by decide +kernel)
set_option maxRecDepth 20000 in
theorem gu_X9_fit_X3_numberAt_253 : GoodIn uX9_fit (wsV RX9 253 RX3 yX3_numberAt uX3_numberAt) := goodIn_r _ [13, 14, 15, 9, 107, 3, 2, 27, 28, 29, 9, 108, 109, 110, 111, 112, 113, 16, 30, 31, 7, 8, 18, 17, 231, 232, 233, 234, 235] rfl (by decide +kernel)
set_option maxHeartbeats 4000000 in
set_option maxRecDepth 100000 in
theorem s_X9_fit (l : Launch) (D : va_G) (t : Nat → Nat) (cI cL cC : ClassId) (gC : Int32) (gE : Int32) (G : Nat) (gW : Nat → Int32) (gA : Nat → Int32) (a0 : Nat) (a1 : Int32) (a2 : Int32) (hGb : G ≤ 100000000) (k_a0 : t a0 = 1) : tM l yX9_fit uX9_fit 6 146 D (gF cI cL cC gC gE G gW gA) (gF cI cL cC gC gE (G + 24576) gW gA) t cI cL cC [.ref a0, .int a1, .int a2] wrAll (pI (fun r => True)) := by
  refine tM.ofW (cc := cX9_fit) (maxL := 4) (ret := (some .int)) (by decide) rfl (Nat.le_of_ble_eq_true rfl) ?_
  intro p e s m below meth c hx hb hr hml hown hts hlk H locs hG hK hE hS ls hl
  have hl : lv_has ls 4 [(0, .ref a0), (1, .int a1), (2, .int a2)] := hl
  have in9 : ∀ w ∈ wsX90, w ∈ uX9_fit := fun w h => List.mem_cons_of_mem _ (List.mem_append_left _ (List.mem_append_left _ (List.mem_append_left _ (List.mem_append_left _ (List.mem_append_left _ (List.mem_append_right _ h))))))
  refine lv_iload_n hx hb dX9_fit_0 rfl (lv_at hl 1 rfl) ?_
  refine lv_if_lt (tgt := 11) hx hb dX9_fit_1 (by decide) (fun c_1 => ?_) (fun c_1 => ?_)
  · skip
    have c_1 : a1.toInt < 0 := q_lt c_1
    refine lv_iconst (v := (-1)) hx hb dX9_fit_11 (by decide) ?_
    exact ty_iret hx hb hr hlk (hG.weak (fun _ _ => gF_mono (by omega))) hS True.intro dX9_fit_12
  · skip
    have c_1 : 0 ≤ a1.toInt := q_nlt c_1
    refine lv_iload_n hx hb dX9_fit_4 rfl (lv_at hl 2 rfl) ?_
    refine ty_calli ((W.runS (As := [.int a2]) (rest := []) ⟨hx, hb, hml, hown, hts⟩ (s_X9_isNoKnob l D t cI cL cC gC gE G gW gA a2 ) (va_cwS 1 hts gu_X9_fit_X9_isNoKnob_228 rfl rfl rfl (by decide +kernel) ⟨Nat.le_of_ble_eq_true rfl, Nat.le_of_ble_eq_true rfl⟩) (tP_S hG hE) rfl rfl hl.1 rfl (lv_room (Nat.le_of_ble_eq_true rfl)) dX9_fit_5 ⟨Nat.le_of_ble_eq_true rfl, Nat.le_of_ble_eq_true rfl⟩)) hS (fun k h => by simp [wr0] at h) (fun r_2 H locs hp_3 hG hS o_4 => ?_)
    rcases hp_3 with ⟨rfl, hc_194⟩ | ⟨rfl, hc_195, hc_196⟩
    · skip
      refine lv_if_eq (tgt := 13) hx hb dX9_fit_8 (by decide) (fun q => absurd q (by decide)) (fun _ => ?_)
      refine lv_pc (pc2 := 11) rfl ?_
      refine lv_iconst (v := (-1)) hx hb dX9_fit_11 (by decide) ?_
      exact ty_iret hx hb hr hlk (hG.weak (fun _ _ => gF_mono (by omega))) hS True.intro dX9_fit_12
    · skip
      refine lv_if_eq (tgt := 13) hx hb dX9_fit_8 (by decide) (fun _ => ?_) (fun q => absurd (by decide) q)
      refine lv_aload_n hx hb dX9_fit_13 rfl (lv_at hl 0 rfl) ?_
      obtain ⟨r_5, r_7, r_9, r_11, v_13, v_14, r_15, r_17, r_19, r_21, r_23, r_25, r_27, v_29, r_31, r_33, r_35, r_37, at_39, h_6, h_8, h_10, h_12, h_16, h_18, h_20, h_22, h_24, h_26, h_28, h_30, h_32, h_34, h_36, h_38⟩ := gF_o1 hG k_a0
      refine va_get (D := D) (ci := 8) (v := .int v_13) (C := RX9) (T := TX9) (N := 18) hx hb hts in9 hown hK (va_one at_39) 0 rfl rfl 4 (by decide) (hts (.fieldLink RX9 29 "RiverModel" "isBuilt" "Z") (List.mem_of_getElem? (i := 4) rfl)) (fun _ h9 => h9) rfl dX9_fit_14 ?_
      refine lv_if_ne (tgt := 23) hx hb dX9_fit_17 (by decide) (fun c_40 => ?_) (fun c_40 => ?_)
      · skip
        have c_40 : v_13.toInt ≠ 0 := q_ne c_40
        refine lv_aload_n hx hb dX9_fit_23 rfl (lv_at hl 0 rfl) ?_
        refine va_get (D := D) (ci := 8) (v := .ref r_33) (C := RX9) (T := TX9) (N := 18) hx hb hts in9 hown hK (va_one at_39) 0 rfl rfl 15 (by decide) (hts (.fieldLink RX9 81 "RiverModel" "knobs" "LRiverModel$Knobs;") (List.mem_of_getElem? (i := 5) rfl)) (fun _ h9 => h9) rfl dX9_fit_24 ?_
        refine lv_pc (pc2 := 27) rfl ?_
        refine lv_iload_n hx hb dX9_fit_27 rfl (lv_at hl 2 rfl) ?_
        obtain ⟨r_41, r_43, r_45, r_47, r_49, at_51, h_42, h_44, h_46, h_48, h_50⟩ := gF_o7 hG h_34
        refine ty_calli ((W.runV (As := [.int a2]) (rest := []) ⟨hx, hb, hml, hown, hts⟩ (s_X3_isSet l D t cI cL cC gC gE G gW gA r_33 a2 h_34) (cwV 1 hts gu_X9_fit_X3_isSet_246 rfl rfl rfl (by decide +kernel) ⟨Nat.le_of_ble_eq_true rfl, Nat.le_of_ble_eq_true rfl⟩) (tP_V hG hE at_51 rfl) rfl rfl hl.1 rfl (lv_room (Nat.le_of_ble_eq_true rfl)) dX9_fit_28 ⟨Nat.le_of_ble_eq_true rfl, Nat.le_of_ble_eq_true rfl⟩)) hS (fun k h => by simp [wr0] at h) (fun r_52 H locs hp_53 hG hS o_54 => ?_)
        have at_39 := va_at.keptC at_39 o_54 k_a0 rfl
        have at_51 := va_at.keptC at_51 o_54 h_34 rfl
        rcases hp_53 with ⟨rfl, hc_197, hc_198⟩ | ⟨rfl, _⟩
        · skip
          refine lv_if_eq (tgt := 42) hx hb dX9_fit_31 (by decide) (fun q => absurd q (by decide)) (fun _ => ?_)
          refine lv_aload_n hx hb dX9_fit_34 rfl (lv_at hl 0 rfl) ?_
          refine lv_iload_n hx hb dX9_fit_35 rfl (lv_at hl 1 rfl) ?_
          refine ty_calli ((W.runV (As := [.int a1]) (rest := []) ⟨hx, hb, hml, hown, hts⟩ (s_X9_holdingPoint l D t cI cL cC gC gE G gW gA a0 a1 (by omega) k_a0) (cwV 1 hts gu_X9_fit_X9_holdingPoint_249 rfl rfl rfl (by decide +kernel) ⟨Nat.le_of_ble_eq_true rfl, Nat.le_of_ble_eq_true rfl⟩) (tP_V hG hE at_39 rfl) rfl rfl hl.1 rfl (lv_room (Nat.le_of_ble_eq_true rfl)) dX9_fit_36 ⟨Nat.le_of_ble_eq_true rfl, Nat.le_of_ble_eq_true rfl⟩)) hS (fun _ h => h) (fun r_55 H locs hp_56 hG hS o_57 => ?_)
          refine lv_goto (tgt := 44) hx hb dX9_fit_39 (by decide) ?_
          refine lv_istore_n (lv' := [(3, .int r_55), (0, .ref a0), (1, .int a1), (2, .int a2)]) hx hb dX9_fit_44 rfl hl (by decide) rfl (fun ls hl => ?_)
          refine lv_pc (pc2 := 45) rfl ?_
          refine lv_iload_n hx hb dX9_fit_45 rfl (lv_at hl 0 rfl) ?_
          refine lv_bipush (v := (-4)) hx hb dX9_fit_46 (by decide) ?_
          refine lv_icmp_ne (tgt := 56) hx hb dX9_fit_48 (by decide) (fun c_58 => ?_) (fun c_58 => ?_)
          · skip
            have c_58 : r_55.toInt ≠ (-4) := q_ne c_58
            refine lv_aload_n hx hb dX9_fit_56 rfl (lv_at hl 1 rfl) ?_
            obtain ⟨r_59, r_61, r_63, r_65, v_67, v_68, r_69, r_71, r_73, r_75, r_77, r_79, r_81, v_83, r_85, r_87, r_89, r_91, at_93, h_60, h_62, h_64, h_66, h_70, h_72, h_74, h_76, h_78, h_80, h_82, h_84, h_86, h_88, h_90, h_92⟩ := gF_o1 hG k_a0
            refine va_get (D := D) (ci := 8) (v := .ref r_87) (C := RX9) (T := TX9) (N := 18) hx hb hts in9 hown hK (va_one at_93) 0 rfl rfl 15 (by decide) (hts (.fieldLink RX9 81 "RiverModel" "knobs" "LRiverModel$Knobs;") (List.mem_of_getElem? (i := 5) rfl)) (fun _ h9 => h9) rfl dX9_fit_57 ?_
            refine lv_iload_n hx hb dX9_fit_60 rfl (lv_at hl 3 rfl) ?_
            refine lv_iload_n hx hb dX9_fit_61 rfl (lv_at hl 0 rfl) ?_
            obtain ⟨r_94, r_96, r_98, r_100, r_102, at_104, h_95, h_97, h_99, h_101, h_103⟩ := gF_o7 hG h_88
            refine ty_calli ((W.runV (As := [.int a2, .int r_55]) (rest := []) ⟨hx, hb, hml, hown, hts⟩ (s_X3_numberAt l D t cI cL cC gC gE (G + 24576) gW gA r_87 a2 r_55 h_88) (cwV 2 hts gu_X9_fit_X3_numberAt_253 rfl rfl rfl (by decide +kernel) ⟨Nat.le_of_ble_eq_true rfl, Nat.le_of_ble_eq_true rfl⟩) (tP_V hG hE at_104 rfl) rfl rfl hl.1 rfl (lv_room (Nat.le_of_ble_eq_true rfl)) dX9_fit_62 ⟨Nat.le_of_ble_eq_true rfl, Nat.le_of_ble_eq_true rfl⟩)) hS (fun k h => by simp [wr0] at h) (fun r_105 H locs hp_106 hG hS o_107 => ?_)
            have at_93 := va_at.keptC at_93 o_107 k_a0 rfl
            have at_104 := va_at.keptC at_104 o_107 h_88 rfl
            refine lv_pc (pc2 := 65) rfl ?_
            exact ty_iret hx hb hr hlk hG hS True.intro dX9_fit_65
          · skip
            have c_58 : r_55.toInt = (-4) := q_eq c_58
            refine lv_bipush (v := (-4)) hx hb dX9_fit_51 (by decide) ?_
            refine lv_goto (tgt := 65) hx hb dX9_fit_53 (by decide) ?_
            exact ty_iret hx hb hr hlk hG hS True.intro dX9_fit_65
        · skip
          refine lv_if_eq (tgt := 42) hx hb dX9_fit_31 (by decide) (fun _ => ?_) (fun q => absurd (by decide) q)
          refine lv_bipush (v := (-4)) hx hb dX9_fit_42 (by decide) ?_
          refine lv_istore_n (lv' := [(3, .int (-4)), (0, .ref a0), (1, .int a1), (2, .int a2)]) hx hb dX9_fit_44 rfl hl (by decide) rfl (fun ls hl => ?_)
          refine lv_iload_n hx hb dX9_fit_45 rfl (lv_at hl 0 rfl) ?_
          refine lv_pc (pc2 := 46) rfl ?_
          refine lv_bipush (v := (-4)) hx hb dX9_fit_46 (by decide) ?_
          refine lv_icmp_ne (tgt := 56) hx hb dX9_fit_48 (by decide) (fun q => absurd rfl q) (fun _ => ?_)
          refine lv_bipush (v := (-4)) hx hb dX9_fit_51 (by decide) ?_
          refine lv_goto (tgt := 65) hx hb dX9_fit_53 (by decide) ?_
          exact ty_iret hx hb hr hlk (hG.weak (fun _ _ => gF_mono (by omega))) hS True.intro dX9_fit_65
      · skip
        have c_40 : v_13.toInt = 0 := q_eq c_40
        refine lv_bipush (v := (-2)) hx hb dX9_fit_20 (by decide) ?_
        exact ty_iret hx hb hr hlk (hG.weak (fun _ _ => gF_mono (by omega))) hS True.intro dX9_fit_22

def uX9_take : List Cond := .code yX9_take cX9_take 2 (some .int) :: ([.fieldLink RX9 29 "RiverModel" "isBuilt" "Z", .methodLink RX9 249 yX9_holdingPoint, .instanceMethod yX9_holdingPoint, .selects RX9 yX9_holdingPoint yX9_holdingPoint, .initialized RX9, .methodLink RX9 121 yX9_draftBecomesModel, .instanceMethod yX9_draftBecomesModel, .selects RX9 yX9_draftBecomesModel yX9_draftBecomesModel, .code yX9_holdingPoint cX9_holdingPoint 5 (some .int), .fieldLink RX9 81 "RiverModel" "knobs" "LRiverModel$Knobs;", .methodLink RX9 239 yX3_points, .instanceMethod yX3_points, .selects RX3 yX3_points yX3_points, .initialized RX3, .methodLink RX9 243 yX9_pointHolds, .instanceMethod yX9_pointHolds, .selects RX9 yX9_pointHolds yX9_pointHolds, .code yX3_points cX3_points 1 (some .int), .methodLink RX3 40 yX3_pointsOf, .instanceMethod yX3_pointsOf, .selects RX3 yX3_pointsOf yX3_pointsOf, .code yX3_pointsOf cX3_pointsOf 2 (some .int), .methodLink RX3 37 yX3_isSet, .instanceMethod yX3_isSet, .selects RX3 yX3_isSet yX3_isSet, .fieldLink RX3 24 "RiverModel$Knobs" "manys" "[I", .code yX3_isSet cX3_isSet 2 (some .boolean), .code yX9_pointHolds cX9_pointHolds 4 (some .boolean), .fieldLink RX9 23 "RiverModel" "draft" "LRiverModel$Model;", .fieldLink RX9 19 "RiverModel" "model" "LRiverModel$Model;", .methodLink RX9 316 yX4_copyFrom, .instanceMethod yX4_copyFrom, .selects RX4 yX4_copyFrom yX4_copyFrom, .initialized RX4, .methodLink RX9 350 yX3_lay, .instanceMethod yX3_lay, .selects RX3 yX3_lay yX3_lay, .fieldLink RX9 57 "RiverModel" "trial" "LRiverModel$Course;", .methodLink RX9 147 yX0_begin, .instanceMethod yX0_begin, .selects RX0 yX0_begin yX0_begin, .initialized RX0, .fieldLink RX9 74 "RiverModel" "gauges" "LRiverModel$Gauges;", .methodLink RX9 354 yX1_lastSeen, .instanceMethod yX1_lastSeen, .selects RX1 yX1_lastSeen yX1_lastSeen, .initialized RX1, .fieldLink RX9 39 "RiverModel" "skyA" "LRiverModel$Sky;", .methodLink RX9 357 yX6_rainIn, .instanceMethod yX6_rainIn, .selects RX6 yX6_rainIn yX6_rainIn, .initialized RX6, .methodLink RX9 360 yX6_tempIn, .instanceMethod yX6_tempIn, .selects RX6 yX6_tempIn yX6_tempIn, .methodLink RX9 363 yX0_goHour, .instanceMethod yX0_goHour, .selects RX0 yX0_goHour yX0_goHour, .methodLink RX9 367 yX1_agree, .instanceMethod yX1_agree, .selects RX1 yX1_agree yX1_agree, .code yX4_copyFrom cX4_copyFrom 2 none, .fieldLink RX4 9 "RiverModel$Model" "cells" "[I", .methodLink RX4 37 arraycopyName, .native arraycopyName, .static arraycopyName, .initialized "java/lang/System", .fieldLink RX4 15 "RiverModel$Model" "storeItems" "[I", .fieldLink RX4 18 "RiverModel$Model" "gateItems" "[I", .fieldLink RX4 21 "RiverModel$Model" "many" "I", .fieldLink RX4 25 "RiverModel$Model" "stores" "I", .fieldLink RX4 28 "RiverModel$Model" "gates" "I", .code yX3_lay cX3_lay 4 (some .boolean), .fieldLink RX3 9 "RiverModel$Knobs" "items" "[I", .methodLink RX3 63 yX4_isItemAsTold, .instanceMethod yX4_isItemAsTold, .selects RX4 yX4_isItemAsTold yX4_isItemAsTold, .fieldLink RX3 15 "RiverModel$Knobs" "numbers" "[I", .methodLink RX3 50 yX4_hasNumber, .instanceMethod yX4_hasNumber, .selects RX4 yX4_hasNumber yX4_hasNumber, .methodLink RX3 56 yX3_numberAt, .instanceMethod yX3_numberAt, .selects RX3 yX3_numberAt yX3_numberAt, .methodLink RX3 59 yX4_putCell, .instanceMethod yX4_putCell, .selects RX4 yX4_putCell yX4_putCell, .code yX4_isItemAsTold cX4_isItemAsTold 2 (some .boolean), .methodLink RX4 73 yX4_cell, .instanceMethod yX4_cell, .selects RX4 yX4_cell yX4_cell, .methodLink RX4 77 yX2_areNumbersAsTold, .static yX2_areNumbersAsTold, .initialized RX2, .code yX4_cell cX4_cell 3 (some .int), .code yX2_areNumbersAsTold cX2_areNumbersAsTold 4 (some .boolean), .methodLink RX2 10 yX2_isUpTo, .static yX2_isUpTo, .constant RX2 9 (1000000), .code yX2_isUpTo cX2_isUpTo 2 (some .boolean), .code yX4_hasNumber cX4_hasNumber 3 (some .boolean), .methodLink RX4 86 yX2_numbersOf, .static yX2_numbersOf, .code yX2_numbersOf cX2_numbersOf 1 (some .int), .code yX3_numberAt cX3_numberAt 4 (some .int), .static yX9_isNoKnob, .methodLink RX3 44 Lib.Math.max.name, .static Lib.Math.max.name, .initialized "java/lang/Math", .code Lib.Math.max.name Lib.Math.max.code 2 (some .int), .fieldLink RX3 18 "RiverModel$Knobs" "froms" "[I", .fieldLink RX3 21 "RiverModel$Knobs" "steps" "[I", .code yX9_isNoKnob cX9_isNoKnob 1 (some .boolean), .code yX4_putCell cX4_putCell 4 none, .static yX9_isNoItem, .static yX9_isOutside, .code yX9_isNoItem cX9_isNoItem 1 (some .boolean), .code yX9_isOutside cX9_isOutside 3 (some .boolean), .code yX0_begin cX0_begin 3 none, .fieldLink RX0 15 "RiverModel$Course" "moved" "[J", .methodLink RX0 45 yJ7_fill_d0a16, .static yJ7_fill_d0a16, .initialized RJ7, .fieldLink RX0 18 "RiverModel$Course" "openings" "[I", .methodLink RX0 51 yJ7_fill_53178, .static yJ7_fill_53178, .fieldLink RX0 22 "RiverModel$Course" "due" "[J", .fieldLink RX0 25 "RiverModel$Course" "rained" "J", .fieldLink RX0 29 "RiverModel$Course" "air" "J", .fieldLink RX0 32 "RiverModel$Course" "sea" "J", .fieldLink RX0 35 "RiverModel$Course" "hours" "I", .fieldLink RX0 9 "RiverModel$Course" "held" "[J", .methodLink RX0 39 yX4_startOf, .instanceMethod yX4_startOf, .selects RX4 yX4_startOf yX4_startOf, .code yJ7_fill_d0a16 cJ7_fill_d0a16 5 none, .code yJ7_fill_53178 cJ7_fill_53178 4 none, .code yX4_startOf cX4_startOf 2 (some .int), .methodLink RX4 66 yX4_hasStore, .instanceMethod yX4_hasStore, .selects RX4 yX4_hasStore yX4_hasStore, .code yX4_hasStore cX4_hasStore 2 (some .boolean), .code yX1_lastSeen cX1_lastSeen 3 (some .int), .fieldLink RX1 18 "RiverModel$Gauges" "seen" "[I", .methodLink RX1 67 Lib.Math.max.name, .code yX6_rainIn cX6_rainIn 2 (some .int), .fieldLink RX6 9 "RiverModel$Sky" "rains" "[I", .code yX6_tempIn cX6_tempIn 2 (some .int), .fieldLink RX6 15 "RiverModel$Sky" "temps" "[I", .code yX0_goHour cX0_goHour 7 none, .methodLink RX0 72 yX0_bringDue, .instanceMethod yX0_bringDue, .selects RX0 yX0_bringDue yX0_bringDue, .fieldLink RX0 75 "RiverModel$Model" "many" "I", .methodLink RX0 78 yX0_amountOf, .instanceMethod yX0_amountOf, .selects RX0 yX0_amountOf yX0_amountOf, .methodLink RX0 82 yX0_move, .instanceMethod yX0_move, .selects RX0 yX0_move yX0_move, .code yX0_bringDue cX0_bringDue 3 none, .code yX0_amountOf cX0_amountOf 11 (some .long), .methodLink RX0 86 yX4_cell, .static yX9_isNoStore, .methodLink RX0 110 yX4_gateOf, .instanceMethod yX4_gateOf, .selects RX4 yX4_gateOf yX4_gateOf, .methodLink RX0 113 yX0_openingOf, .instanceMethod yX0_openingOf, .selects RX0 yX0_openingOf yX0_openingOf, .methodLink RX0 107 Lib.MathLoose.min_long.x, .static Lib.MathLoose.min_long.x, .code Lib.MathLoose.min_long.x Lib.MathLoose.min_long.code 4 (some .long), .methodLink RX0 94 yX0_leakOf, .static yX0_leakOf, .constantLong RX0 117 (100), .methodLink RX0 98 yX4_capacityOf, .instanceMethod yX4_capacityOf, .selects RX4 yX4_capacityOf yX4_capacityOf, .methodLink RX0 101 Lib.MathLoose.max_long.x, .static Lib.MathLoose.max_long.x, .code Lib.MathLoose.max_long.x Lib.MathLoose.max_long.code 4 (some .long), .constantLong RX0 119 (10), .code yX9_isNoStore cX9_isNoStore 1 (some .boolean), .code yX4_gateOf cX4_gateOf 3 (some .int), .code yX0_openingOf cX0_openingOf 2 (some .long), .static yX9_isNoGate, .code yX9_isNoGate cX9_isNoGate 1 (some .boolean), .code yX0_leakOf cX0_leakOf 8 (some .long), .code yX4_capacityOf cX4_capacityOf 2 (some .int), .code yX0_move cX0_move 8 none, .methodLink RX0 124 yX0_send, .instanceMethod yX0_send, .selects RX0 yX0_send yX0_send, .code yX0_send cX0_send 5 none, .code yX1_agree cX1_agree 5 (some .boolean), .methodLink RX1 57 yX1_reading, .instanceMethod yX1_reading, .selects RX1 yX1_reading yX1_reading, .methodLink RX1 61 Lib.MathLoose.abs_long.x, .static Lib.MathLoose.abs_long.x, .code Lib.MathLoose.abs_long.x Lib.MathLoose.abs_long.code 2 (some .long), .fieldLink RX1 21 "RiverModel$Gauges" "mayBeOff" "I", .code yX1_reading cX1_reading 4 (some .long), .methodLink RX1 35 yX1_isSet, .instanceMethod yX1_isSet, .selects RX1 yX1_isSet yX1_isSet, .fieldLink RX1 15 "RiverModel$Gauges" "places" "[I", .fieldLink RX1 9 "RiverModel$Gauges" "whats" "[I", .fieldLink RX1 50 "RiverModel$Course" "held" "[J", .fieldLink RX1 41 "RiverModel$Course" "moved" "[J", .code yX1_isSet cX1_isSet 2 (some .boolean), .code yX9_draftBecomesModel cX9_draftBecomesModel 3 none, .fieldLink RX9 33 "RiverModel" "isOtherLaid" "Z", .fieldLink RX9 67 "RiverModel" "keptMany" "I", .fieldLink RX9 53 "RiverModel" "now" "LRiverModel$Course;", .fieldLink RX9 46 "RiverModel" "startsB" "[I", .methodLink RX9 347 yX4_startOf] ++ wsX90 ++ wsX30 ++ wsX40 ++ wsX00 ++ wsX10 ++ wsX60)
set_option maxRecDepth 20000 in
theorem gu_X9_take_X9_holdingPoint_249 : GoodIn uX9_take (wsV RX9 249 RX9 yX9_holdingPoint uX9_holdingPoint) := goodIn_r _ [2, 3, 4, 5, 9, 10, 11, 12, 13, 14, 15, 16, 17, 5, 18, 19, 20, 21, 22, 23, 24, 25, 26, 27, 28, 29, 30, 31, 32, 33, 34, 35, 36, 37, 38, 39, 40, 41, 42, 43, 44, 45, 46, 47, 48, 49, 50, 51, 52, 53, 54, 55, 56, 57, 58, 59, 60, 61, 62, 63, 64, 65, 66, 67, 68, 69, 70, 71, 72, 73, 74, 75, 76, 77, 78, 79, 80, 81, 82, 83, 84, 85, 86, 87, 88, 89, 90, 91, 92, 93, 94, 95, 96, 97, 98, 99, 100, 101, 102, 103, 104, 105, 106, 107, 108, 109, 110, 111, 112, 113, 114, 115, 116, 117, 118, 119, 120, 121, 122, 123, 124, 125, 126, 127, 128, 129, 130, 131, 132, 133, 134, 135, 136, 137, 138, 139, 140, 141, 142, 143, 144, 145, 146, 147, 148, 149, 150, 151, 152, 153, 154, 155, 156, 157, 158, 159, 160, 161, 162, 163, 164, 165, 166, 167, 168, 169, 170, 171, 172, 173, 174, 175, 176, 177, 178, 179, 180, 181, 182, 183, 184, 185, 186, 187, 188, 189, 190, 191, 192, 193, 194, 195, 196, 197, 198, 199, 200, 201, 202, 203, 204, 205, 206, 207, 208, 209, 210, 211, 212, 219, 220, 221, 222, 223, 224, 225, 226, 227, 228, 229, 230, 231, 232, 233, 234, 235, 236, 237, 238, 239, 240, 241, 242, 243, 244, 245, 246, 247, 248, 249, 250, 251, 252, 253, 254, 255, 256, 257, 258, 259, 260, 261] rfl (by decide +kernel)
set_option maxRecDepth 20000 in
theorem gu_X9_take_X9_draftBecomesModel_121 : GoodIn uX9_take (wsV RX9 121 RX9 yX9_draftBecomesModel uX9_draftBecomesModel) := goodIn_r _ [6, 7, 8, 5, 213, 30, 29, 1, 214, 215, 216, 39, 40, 41, 42, 217, 218, 134, 135, 34, 119, 120, 121, 122, 123, 124, 125, 126, 127, 128, 129, 130, 131, 132, 133, 136, 137, 138, 139, 140, 141, 68, 89, 90, 91, 142, 95, 63, 219, 220, 221, 222, 223, 224, 225, 226, 227, 228, 229, 230, 231, 232, 233, 234, 235, 236, 248, 249, 250, 251, 252, 253, 254, 255, 242, 243, 244, 245, 246, 247] rfl (by decide +kernel)
set_option maxHeartbeats 4000000 in
set_option maxRecDepth 100000 in
theorem s_X9_take (l : Launch) (D : va_G) (t : Nat → Nat) (cI cL cC : ClassId) (gC : Int32) (gE : Int32) (G : Nat) (gW : Nat → Int32) (gA : Nat → Int32) (a0 : Nat) (a1 : Int32) (hGb : G ≤ 100000000) (k_a0 : t a0 = 1) : tM l yX9_take uX9_take 6 146 D (gF cI cL cC gC gE G gW gA) (gF cI cL cC gC gE (G + 24576) gW gA) t cI cL cC [.ref a0, .int a1] wrAll (pI (fun r => True)) := by
  refine tM.ofW (cc := cX9_take) (maxL := 2) (ret := (some .int)) (by decide) rfl (Nat.le_of_ble_eq_true rfl) ?_
  intro p e s m below meth c hx hb hr hml hown hts hlk H locs hG hK hE hS ls hl
  have hl : lv_has ls 2 [(0, .ref a0), (1, .int a1)] := hl
  have in9 : ∀ w ∈ wsX90, w ∈ uX9_take := fun w h => List.mem_cons_of_mem _ (List.mem_append_left _ (List.mem_append_left _ (List.mem_append_left _ (List.mem_append_left _ (List.mem_append_left _ (List.mem_append_right _ h))))))
  refine lv_iload_n hx hb dX9_take_0 rfl (lv_at hl 1 rfl) ?_
  refine lv_if_ge (tgt := 6) hx hb dX9_take_1 (by decide) (fun c_1 => ?_) (fun c_1 => ?_)
  · skip
    have c_1 : 0 ≤ a1.toInt := q_le c_1
    refine lv_aload_n hx hb dX9_take_6 rfl (lv_at hl 0 rfl) ?_
    obtain ⟨r_2, r_4, r_6, r_8, v_10, v_11, r_12, r_14, r_16, r_18, r_20, r_22, r_24, v_26, r_28, r_30, r_32, r_34, at_36, h_3, h_5, h_7, h_9, h_13, h_15, h_17, h_19, h_21, h_23, h_25, h_27, h_29, h_31, h_33, h_35⟩ := gF_o1 hG k_a0
    refine va_get (D := D) (ci := 8) (v := .int v_10) (C := RX9) (T := TX9) (N := 18) hx hb hts in9 hown hK (va_one at_36) 0 rfl rfl 4 (by decide) (hts (.fieldLink RX9 29 "RiverModel" "isBuilt" "Z") (List.mem_of_getElem? (i := 1) rfl)) (fun _ h9 => h9) rfl dX9_take_7 ?_
    refine lv_if_ne (tgt := 16) hx hb dX9_take_10 (by decide) (fun c_37 => ?_) (fun c_37 => ?_)
    · skip
      have c_37 : v_10.toInt ≠ 0 := q_ne c_37
      refine lv_aload_n hx hb dX9_take_16 rfl (lv_at hl 0 rfl) ?_
      refine lv_iload_n hx hb dX9_take_17 rfl (lv_at hl 1 rfl) ?_
      refine lv_pc (pc2 := 18) rfl ?_
      refine ty_calli ((W.runV (As := [.int a1]) (rest := []) ⟨hx, hb, hml, hown, hts⟩ (s_X9_holdingPoint l D t cI cL cC gC gE G gW gA a0 a1 (by omega) k_a0) (cwV 1 hts gu_X9_take_X9_holdingPoint_249 rfl rfl rfl (by decide +kernel) ⟨Nat.le_of_ble_eq_true rfl, Nat.le_of_ble_eq_true rfl⟩) (tP_V hG hE at_36 rfl) rfl rfl hl.1 rfl (lv_room (Nat.le_of_ble_eq_true rfl)) dX9_take_18 ⟨Nat.le_of_ble_eq_true rfl, Nat.le_of_ble_eq_true rfl⟩)) hS (fun _ h => h) (fun r_38 H locs hp_39 hG hS o_40 => ?_)
      refine lv_bipush (v := (-4)) hx hb dX9_take_21 (by decide) ?_
      refine lv_icmp_ne (tgt := 29) hx hb dX9_take_23 (by decide) (fun c_41 => ?_) (fun c_41 => ?_)
      · skip
        have c_41 : r_38.toInt ≠ (-4) := q_ne c_41
        refine lv_aload_n hx hb dX9_take_29 rfl (lv_at hl 0 rfl) ?_
        obtain ⟨r_42, r_44, r_46, r_48, v_50, v_51, r_52, r_54, r_56, r_58, r_60, r_62, r_64, v_66, r_68, r_70, r_72, r_74, at_76, h_43, h_45, h_47, h_49, h_53, h_55, h_57, h_59, h_61, h_63, h_65, h_67, h_69, h_71, h_73, h_75⟩ := gF_o1 hG k_a0
        refine ty_callv ((W.runV (As := []) (rest := []) ⟨hx, hb, hml, hown, hts⟩ (s_X9_draftBecomesModel l D t cI cL cC gC gE (G + 24576) gW gA a0 k_a0) (cwV 0 hts gu_X9_take_X9_draftBecomesModel_121 rfl rfl rfl (by decide +kernel) ⟨Nat.le_of_ble_eq_true rfl, Nat.le_of_ble_eq_true rfl⟩) (tP_V hG hE at_76 rfl) rfl rfl hl.1 rfl (lv_room (Nat.le_of_ble_eq_true rfl)) dX9_take_30 ⟨Nat.le_of_ble_eq_true rfl, Nat.le_of_ble_eq_true rfl⟩)) hS (fun _ h => h) (fun H locs hp_78 hG hS o_79 => ?_)
        refine lv_iconst (v := 0) hx hb dX9_take_33 (by decide) ?_
        exact ty_iret hx hb hr hlk hG hS True.intro dX9_take_34
      · skip
        have c_41 : r_38.toInt = (-4) := q_eq c_41
        refine lv_bipush (v := (-4)) hx hb dX9_take_26 (by decide) ?_
        refine lv_pc (pc2 := 28) rfl ?_
        exact ty_iret hx hb hr hlk hG hS True.intro dX9_take_28
    · skip
      have c_37 : v_10.toInt = 0 := q_eq c_37
      refine lv_bipush (v := (-2)) hx hb dX9_take_13 (by decide) ?_
      exact ty_iret hx hb hr hlk (hG.weak (fun _ _ => gF_mono (by omega))) hS True.intro dX9_take_15
  · skip
    have c_1 : a1.toInt < 0 := q_nle c_1
    refine lv_iconst (v := (-1)) hx hb dX9_take_4 (by decide) ?_
    exact ty_iret hx hb hr hlk (hG.weak (fun _ _ => gF_mono (by omega))) hS True.intro dX9_take_5

def uX9_chance : List Cond := .code yX9_chance cX9_chance 5 (some .int) :: ([.methodLink RX9 205 yX9_isNoGauge, .static yX9_isNoGauge, .initialized RX9, .methodLink RX9 99 yX9_isOutside, .static yX9_isOutside, .methodLink RX9 212 yX9_lacksGauge, .instanceMethod yX9_lacksGauge, .selects RX9 yX9_lacksGauge yX9_lacksGauge, .methodLink RX9 265 yX9_isBeyond, .instanceMethod yX9_isBeyond, .selects RX9 yX9_isBeyond yX9_isBeyond, .methodLink RX9 268 yX9_weightAbove, .instanceMethod yX9_weightAbove, .selects RX9 yX9_weightAbove yX9_weightAbove, .code yX9_isNoGauge cX9_isNoGauge 1 (some .boolean), .code yX9_isOutside cX9_isOutside 3 (some .boolean), .code yX9_lacksGauge cX9_lacksGauge 2 (some .boolean), .fieldLink RX9 29 "RiverModel" "isBuilt" "Z", .fieldLink RX9 74 "RiverModel" "gauges" "LRiverModel$Gauges;", .methodLink RX9 346 yX1_isSet, .instanceMethod yX1_isSet, .selects RX1 yX1_isSet yX1_isSet, .initialized RX1, .code yX1_isSet cX1_isSet 2 (some .boolean), .fieldLink RX1 9 "RiverModel$Gauges" "whats" "[I", .code yX9_isBeyond cX9_isBeyond 2 (some .boolean), .fieldLink RX9 53 "RiverModel" "now" "LRiverModel$Course;", .fieldLink RX9 144 "RiverModel$Course" "hours" "I", .code yX9_weightAbove cX9_weightAbove 8 (some .int), .fieldLink RX9 88 "RiverModel" "worlds" "LRiverModel$Worlds;", .fieldLink RX9 259 "RiverModel$Worlds" "weights" "[I", .methodLink RX9 275 yX9_peakAhead, .instanceMethod yX9_peakAhead, .selects RX9 yX9_peakAhead yX9_peakAhead, .code yX9_peakAhead cX9_peakAhead 9 (some .long), .fieldLink RX9 57 "RiverModel" "trial" "LRiverModel$Course;", .methodLink RX9 330 yX0_copyFrom, .instanceMethod yX0_copyFrom, .selects RX0 yX0_copyFrom yX0_copyFrom, .initialized RX0, .methodLink RX9 371 yX8_rainAhead, .instanceMethod yX8_rainAhead, .selects RX8 yX8_rainAhead yX8_rainAhead, .initialized RX8, .fieldLink RX9 19 "RiverModel" "model" "LRiverModel$Model;", .fieldLink RX9 39 "RiverModel" "skyA" "LRiverModel$Sky;", .methodLink RX9 360 yX6_tempIn, .instanceMethod yX6_tempIn, .selects RX6 yX6_tempIn yX6_tempIn, .initialized RX6, .methodLink RX9 363 yX0_goHour, .instanceMethod yX0_goHour, .selects RX0 yX0_goHour yX0_goHour, .methodLink RX9 215 yX1_reading, .instanceMethod yX1_reading, .selects RX1 yX1_reading yX1_reading, .methodLink RX9 374 Lib.MathLoose.max_long.x, .static Lib.MathLoose.max_long.x, .initialized "java/lang/Math", .code Lib.MathLoose.max_long.x Lib.MathLoose.max_long.code 4 (some .long), .methodLink RX9 357 yX6_rainIn, .instanceMethod yX6_rainIn, .selects RX6 yX6_rainIn yX6_rainIn, .code yX0_copyFrom cX0_copyFrom 2 none, .fieldLink RX0 9 "RiverModel$Course" "held" "[J", .methodLink RX0 54 arraycopyName, .native arraycopyName, .static arraycopyName, .initialized "java/lang/System", .fieldLink RX0 15 "RiverModel$Course" "moved" "[J", .fieldLink RX0 18 "RiverModel$Course" "openings" "[I", .fieldLink RX0 22 "RiverModel$Course" "due" "[J", .fieldLink RX0 25 "RiverModel$Course" "rained" "J", .fieldLink RX0 29 "RiverModel$Course" "air" "J", .fieldLink RX0 32 "RiverModel$Course" "sea" "J", .fieldLink RX0 35 "RiverModel$Course" "hours" "I", .code yX8_rainAhead cX8_rainAhead 3 (some .int), .static yX9_isNoWorld, .fieldLink RX8 18 "RiverModel$Worlds" "rains" "[I", .code yX9_isNoWorld cX9_isNoWorld 1 (some .boolean), .code yX6_tempIn cX6_tempIn 2 (some .int), .fieldLink RX6 15 "RiverModel$Sky" "temps" "[I", .code yX0_goHour cX0_goHour 7 none, .methodLink RX0 72 yX0_bringDue, .instanceMethod yX0_bringDue, .selects RX0 yX0_bringDue yX0_bringDue, .fieldLink RX0 75 "RiverModel$Model" "many" "I", .methodLink RX0 78 yX0_amountOf, .instanceMethod yX0_amountOf, .selects RX0 yX0_amountOf yX0_amountOf, .methodLink RX0 82 yX0_move, .instanceMethod yX0_move, .selects RX0 yX0_move yX0_move, .code yX0_bringDue cX0_bringDue 3 none, .code yX0_amountOf cX0_amountOf 11 (some .long), .methodLink RX0 86 yX4_cell, .instanceMethod yX4_cell, .selects RX4 yX4_cell yX4_cell, .initialized RX4, .static yX9_isNoStore, .methodLink RX0 110 yX4_gateOf, .instanceMethod yX4_gateOf, .selects RX4 yX4_gateOf yX4_gateOf, .methodLink RX0 113 yX0_openingOf, .instanceMethod yX0_openingOf, .selects RX0 yX0_openingOf yX0_openingOf, .methodLink RX0 107 Lib.MathLoose.min_long.x, .static Lib.MathLoose.min_long.x, .code Lib.MathLoose.min_long.x Lib.MathLoose.min_long.code 4 (some .long), .methodLink RX0 94 yX0_leakOf, .static yX0_leakOf, .constantLong RX0 117 (100), .methodLink RX0 98 yX4_capacityOf, .instanceMethod yX4_capacityOf, .selects RX4 yX4_capacityOf yX4_capacityOf, .methodLink RX0 101 Lib.MathLoose.max_long.x, .constantLong RX0 119 (10), .code yX4_cell cX4_cell 3 (some .int), .fieldLink RX4 9 "RiverModel$Model" "cells" "[I", .code yX9_isNoStore cX9_isNoStore 1 (some .boolean), .code yX4_gateOf cX4_gateOf 3 (some .int), .fieldLink RX4 28 "RiverModel$Model" "gates" "I", .fieldLink RX4 18 "RiverModel$Model" "gateItems" "[I", .code yX0_openingOf cX0_openingOf 2 (some .long), .static yX9_isNoGate, .code yX9_isNoGate cX9_isNoGate 1 (some .boolean), .code yX0_leakOf cX0_leakOf 8 (some .long), .code yX4_capacityOf cX4_capacityOf 2 (some .int), .methodLink RX4 66 yX4_hasStore, .instanceMethod yX4_hasStore, .selects RX4 yX4_hasStore yX4_hasStore, .fieldLink RX4 15 "RiverModel$Model" "storeItems" "[I", .methodLink RX4 73 yX4_cell, .code yX4_hasStore cX4_hasStore 2 (some .boolean), .code yX0_move cX0_move 8 none, .methodLink RX0 124 yX0_send, .instanceMethod yX0_send, .selects RX0 yX0_send yX0_send, .code yX0_send cX0_send 5 none, .code yX1_reading cX1_reading 4 (some .long), .methodLink RX1 35 yX1_isSet, .fieldLink RX1 15 "RiverModel$Gauges" "places" "[I", .fieldLink RX1 50 "RiverModel$Course" "held" "[J", .static yX9_isNoItem, .fieldLink RX1 41 "RiverModel$Course" "moved" "[J", .code yX9_isNoItem cX9_isNoItem 1 (some .boolean), .code yX6_rainIn cX6_rainIn 2 (some .int), .fieldLink RX6 9 "RiverModel$Sky" "rains" "[I"] ++ wsX90 ++ wsX10 ++ wsX00 ++ wsX80 ++ wsX60 ++ wsX40)
set_option maxRecDepth 20000 in
theorem gu_X9_chance_X9_isNoGauge_205 : GoodIn uX9_chance (va_wsS RX9 205 yX9_isNoGauge uX9_isNoGauge) := goodIn_r _ [1, 2, 3, 15] rfl (by decide +kernel)
set_option maxRecDepth 20000 in
theorem gu_X9_chance_X9_isOutside_99 : GoodIn uX9_chance (va_wsS RX9 99 yX9_isOutside uX9_isOutside) := goodIn_r _ [4, 5, 3, 16] rfl (by decide +kernel)
set_option maxRecDepth 20000 in
theorem gu_X9_chance_X9_lacksGauge_212 : GoodIn uX9_chance (wsV RX9 212 RX9 yX9_lacksGauge uX9_lacksGauge) := goodIn_r _ [6, 7, 8, 3, 17, 18, 19, 20, 21, 22, 23, 24, 25, 149, 150, 151, 152, 153, 154, 155, 156, 157, 158, 159, 160, 161, 162, 163, 164, 165, 166, 167, 168, 169, 170] rfl (by decide +kernel)
set_option maxRecDepth 20000 in
theorem gu_X9_chance_X9_isBeyond_265 : GoodIn uX9_chance (wsV RX9 265 RX9 yX9_isBeyond uX9_isBeyond) := goodIn_r _ [9, 10, 11, 3, 26, 27, 28, 149, 150, 151, 152, 153, 154, 155, 156, 157, 158, 159, 160, 161, 162, 163, 164, 165, 166, 171, 172, 173, 174, 175, 176, 177, 178] rfl (by decide +kernel)
set_option maxRecDepth 20000 in
theorem gu_X9_chance_X9_weightAbove_268 : GoodIn uX9_chance (wsV RX9 268 RX9 yX9_weightAbove uX9_weightAbove) := goodIn_r _ [12, 13, 14, 3, 29, 30, 31, 32, 33, 34, 3, 35, 36, 27, 37, 38, 39, 40, 28, 41, 42, 43, 44, 45, 46, 47, 48, 49, 50, 51, 52, 53, 19, 54, 55, 56, 23, 57, 58, 59, 60, 61, 62, 63, 64, 65, 66, 67, 68, 69, 70, 71, 72, 73, 74, 75, 76, 77, 78, 5, 79, 80, 16, 81, 82, 83, 84, 85, 86, 87, 88, 89, 90, 91, 92, 93, 94, 95, 96, 97, 98, 99, 100, 101, 102, 103, 104, 105, 106, 107, 108, 109, 110, 111, 112, 113, 114, 115, 116, 117, 118, 119, 120, 121, 122, 123, 124, 125, 126, 127, 128, 129, 130, 131, 132, 133, 134, 135, 136, 137, 138, 139, 140, 141, 21, 22, 142, 25, 143, 144, 145, 24, 146, 147, 148, 149, 150, 151, 152, 153, 154, 155, 156, 157, 158, 159, 160, 161, 162, 163, 164, 165, 166, 179, 180, 181, 171, 172, 173, 174, 175, 176, 177, 178, 182, 183, 184, 185, 186, 187, 188, 189, 167, 168, 169, 170] rfl (by decide +kernel)
set_option maxHeartbeats 4000000 in
set_option maxRecDepth 100000 in
theorem s_X9_chance (l : Launch) (D : va_G) (t : Nat → Nat) (cI cL cC : ClassId) (gC : Int32) (gE : Int32) (G : Nat) (gW : Nat → Int32) (gA : Nat → Int32) (a0 : Nat) (a1 : Int32) (a2 : Int32) (a3 : Int64) (hGb : G ≤ 100000000) (k_a0 : t a0 = 1) : tM l yX9_chance uX9_chance 6 154 D (gF cI cL cC gC gE G gW gA) (gF cI cL cC gC gE (G + 96) gW gA) t cI cL cC [.ref a0, .int a1, .int a2, .long a3] wrC (pI (fun r => True)) := by
  refine tM.ofW (cc := cX9_chance) (maxL := 5) (ret := (some .int)) (by decide) rfl (Nat.le_of_ble_eq_true rfl) ?_
  intro p e s m below meth c hx hb hr hml hown hts hlk H locs hG hK hE hS ls hl
  have hl : lv_has ls 5 [(0, .ref a0), (1, .int a1), (2, .int a2), (3, .long a3)] := hl
  skip
  refine lv_iload_n hx hb dX9_chance_0 rfl (lv_at hl 1 rfl) ?_
  refine ty_calli ((W.runS (As := [.int a1]) (rest := []) ⟨hx, hb, hml, hown, hts⟩ (s_X9_isNoGauge l D t cI cL cC gC gE G gW gA a1 ) (va_cwS 1 hts gu_X9_chance_X9_isNoGauge_205 rfl rfl rfl (by decide +kernel) ⟨Nat.le_of_ble_eq_true rfl, Nat.le_of_ble_eq_true rfl⟩) (tP_S hG hE) rfl rfl hl.1 rfl (lv_room (Nat.le_of_ble_eq_true rfl)) dX9_chance_1 ⟨Nat.le_of_ble_eq_true rfl, Nat.le_of_ble_eq_true rfl⟩)) hS (fun k h => by simp [wr0] at h) (fun r_1 H locs hp_2 hG hS o_3 => ?_)
  rcases hp_2 with ⟨rfl, hc_199⟩ | ⟨rfl, hc_200, hc_201⟩
  · skip
    refine lv_if_ne (tgt := 17) hx hb dX9_chance_4 (by decide) (fun _ => ?_) (fun q => absurd q (by decide))
    refine lv_iconst (v := (-1)) hx hb dX9_chance_17 (by decide) ?_
    exact ty_iret hx hb hr hlk (hG.weak (fun _ _ => gF_mono (by omega))) hS True.intro dX9_chance_18
  · skip
    refine lv_if_ne (tgt := 17) hx hb dX9_chance_4 (by decide) (fun q => absurd rfl q) (fun _ => ?_)
    refine lv_iload_n hx hb dX9_chance_7 rfl (lv_at hl 2 rfl) ?_
    refine lv_pc (pc2 := 8) rfl ?_
    refine lv_iconst (v := 1) hx hb dX9_chance_8 (by decide) ?_
    refine lv_bipush (v := 24) hx hb dX9_chance_9 (by decide) ?_
    refine ty_calli ((W.runS (As := [.int a2, .int 1, .int 24]) (rest := []) ⟨hx, hb, hml, hown, hts⟩ (s_X9_isOutside l D t cI cL cC gC gE G gW gA a2 1 24 1 24 (by decide) (by decide) ) (va_cwS 3 hts gu_X9_chance_X9_isOutside_99 rfl rfl rfl (by decide +kernel) ⟨Nat.le_of_ble_eq_true rfl, Nat.le_of_ble_eq_true rfl⟩) (tP_S hG hE) rfl rfl hl.1 rfl (lv_room (Nat.le_of_ble_eq_true rfl)) dX9_chance_11 ⟨Nat.le_of_ble_eq_true rfl, Nat.le_of_ble_eq_true rfl⟩)) hS (fun k h => by simp [wr0] at h) (fun r_4 H locs hp_5 hG hS o_6 => ?_)
    rcases hp_5 with ⟨rfl, hc_202⟩ | ⟨rfl, hc_203, hc_204⟩
    · skip
      refine lv_if_eq (tgt := 19) hx hb dX9_chance_14 (by decide) (fun q => absurd q (by decide)) (fun _ => ?_)
      refine lv_iconst (v := (-1)) hx hb dX9_chance_17 (by decide) ?_
      exact ty_iret hx hb hr hlk (hG.weak (fun _ _ => gF_mono (by omega))) hS True.intro dX9_chance_18
    · skip
      refine lv_if_eq (tgt := 19) hx hb dX9_chance_14 (by decide) (fun _ => ?_) (fun q => absurd (by decide) q)
      refine lv_aload_n hx hb dX9_chance_19 rfl (lv_at hl 0 rfl) ?_
      refine lv_pc (pc2 := 20) rfl ?_
      refine lv_iload_n hx hb dX9_chance_20 rfl (lv_at hl 1 rfl) ?_
      obtain ⟨r_7, r_9, r_11, r_13, v_15, v_16, r_17, r_19, r_21, r_23, r_25, r_27, r_29, v_31, r_33, r_35, r_37, r_39, at_41, h_8, h_10, h_12, h_14, h_18, h_20, h_22, h_24, h_26, h_28, h_30, h_32, h_34, h_36, h_38, h_40⟩ := gF_o1 hG k_a0
      refine ty_calli ((W.runV (As := [.int a1]) (rest := []) ⟨hx, hb, hml, hown, hts⟩ (s_X9_lacksGauge l D t cI cL cC gC gE G gW gA a0 a1 k_a0) (cwV 1 hts gu_X9_chance_X9_lacksGauge_212 rfl rfl rfl (by decide +kernel) ⟨Nat.le_of_ble_eq_true rfl, Nat.le_of_ble_eq_true rfl⟩) (tP_V hG hE at_41 rfl) rfl rfl hl.1 rfl (lv_room (Nat.le_of_ble_eq_true rfl)) dX9_chance_21 ⟨Nat.le_of_ble_eq_true rfl, Nat.le_of_ble_eq_true rfl⟩)) hS (fun k h => by simp [wr0] at h) (fun r_42 H locs hp_43 hG hS o_44 => ?_)
      have at_41 := va_at.keptC at_41 o_44 k_a0 rfl
      rcases hp_43 with rfl | rfl
      · skip
        refine lv_if_ne (tgt := 35) hx hb dX9_chance_24 (by decide) (fun q => absurd rfl q) (fun _ => ?_)
        refine lv_aload_n hx hb dX9_chance_27 rfl (lv_at hl 0 rfl) ?_
        refine lv_iload_n hx hb dX9_chance_28 rfl (lv_at hl 2 rfl) ?_
        refine ty_calli ((W.runV (As := [.int a2]) (rest := []) ⟨hx, hb, hml, hown, hts⟩ (s_X9_isBeyond l D t cI cL cC gC gE G gW gA a0 a2 k_a0) (cwV 1 hts gu_X9_chance_X9_isBeyond_265 rfl rfl rfl (by decide +kernel) ⟨Nat.le_of_ble_eq_true rfl, Nat.le_of_ble_eq_true rfl⟩) (tP_V hG hE at_41 rfl) rfl rfl hl.1 rfl (lv_room (Nat.le_of_ble_eq_true rfl)) dX9_chance_29 ⟨Nat.le_of_ble_eq_true rfl, Nat.le_of_ble_eq_true rfl⟩)) hS (fun k h => by simp [wr0] at h) (fun r_45 H locs hp_46 hG hS o_47 => ?_)
        have at_41 := va_at.keptC at_41 o_47 k_a0 rfl
        rcases hp_46 with rfl | rfl
        · skip
          refine lv_if_eq (tgt := 40) hx hb dX9_chance_32 (by decide) (fun _ => ?_) (fun q => absurd (by decide) q)
          refine lv_aload_n hx hb dX9_chance_40 rfl (lv_at hl 0 rfl) ?_
          refine lv_pc (pc2 := 41) rfl ?_
          refine lv_iload_n hx hb dX9_chance_41 rfl (lv_at hl 1 rfl) ?_
          refine lv_iload_n hx hb dX9_chance_42 rfl (lv_at hl 2 rfl) ?_
          refine lv_lload_n hx hb dX9_chance_43 rfl (lv_at hl 3 rfl) ?_
          refine ty_calli ((W.runV (As := [.int a1, .int a2, .long a3]) (rest := []) ⟨hx, hb, hml, hown, hts⟩ (s_X9_weightAbove l D t cI cL cC gC gE G gW gA a0 a1 a2 a3 (by omega) (by omega) k_a0) (cwV 3 hts gu_X9_chance_X9_weightAbove_268 rfl rfl rfl (by decide +kernel) ⟨Nat.le_of_ble_eq_true rfl, Nat.le_of_ble_eq_true rfl⟩) (tP_V hG hE at_41 rfl) rfl rfl hl.1 rfl (lv_room (Nat.le_of_ble_eq_true rfl)) dX9_chance_44 ⟨Nat.le_of_ble_eq_true rfl, Nat.le_of_ble_eq_true rfl⟩)) hS (fun _ h => h) (fun r_48 H locs hp_49 hG hS o_50 => ?_)
          have at_41 := va_at.keptC at_41 o_50 k_a0 rfl
          exact ty_iret hx hb hr hlk hG hS True.intro dX9_chance_47
        · skip
          refine lv_if_eq (tgt := 40) hx hb dX9_chance_32 (by decide) (fun q => absurd q (by decide)) (fun _ => ?_)
          refine lv_bipush (v := (-2)) hx hb dX9_chance_35 (by decide) ?_
          refine lv_goto (tgt := 47) hx hb dX9_chance_37 (by decide) ?_
          refine lv_pc (pc2 := 47) rfl ?_
          exact ty_iret hx hb hr hlk (hG.weak (fun _ _ => gF_mono (by omega))) hS True.intro dX9_chance_47
      · skip
        refine lv_if_ne (tgt := 35) hx hb dX9_chance_24 (by decide) (fun _ => ?_) (fun q => absurd q (by decide))
        refine lv_bipush (v := (-2)) hx hb dX9_chance_35 (by decide) ?_
        refine lv_goto (tgt := 47) hx hb dX9_chance_37 (by decide) ?_
        exact ty_iret hx hb hr hlk (hG.weak (fun _ _ => gF_mono (by omega))) hS True.intro dX9_chance_47

def uX9_warn : List Cond := .code yX9_warn cX9_warn 8 (some .int) :: ([.methodLink RX9 205 yX9_isNoGauge, .static yX9_isNoGauge, .initialized RX9, .methodLink RX9 99 yX9_isOutside, .static yX9_isOutside, .methodLink RX9 212 yX9_lacksGauge, .instanceMethod yX9_lacksGauge, .selects RX9 yX9_lacksGauge yX9_lacksGauge, .methodLink RX9 265 yX9_isBeyond, .instanceMethod yX9_isBeyond, .selects RX9 yX9_isBeyond yX9_isBeyond, .methodLink RX9 268 yX9_weightAbove, .instanceMethod yX9_weightAbove, .selects RX9 yX9_weightAbove yX9_weightAbove, .fieldLink RX9 88 "RiverModel" "worlds" "LRiverModel$Worlds;", .methodLink RX9 272 yX8_weightOfAll, .instanceMethod yX8_weightOfAll, .selects RX8 yX8_weightOfAll yX8_weightOfAll, .initialized RX8, .methodLink RX9 275 yX9_peakAhead, .instanceMethod yX9_peakAhead, .selects RX9 yX9_peakAhead yX9_peakAhead, .methodLink RX9 279 yX8_enter, .instanceMethod yX8_enter, .selects RX8 yX8_enter yX8_enter, .code yX9_isNoGauge cX9_isNoGauge 1 (some .boolean), .code yX9_isOutside cX9_isOutside 3 (some .boolean), .code yX9_lacksGauge cX9_lacksGauge 2 (some .boolean), .fieldLink RX9 29 "RiverModel" "isBuilt" "Z", .fieldLink RX9 74 "RiverModel" "gauges" "LRiverModel$Gauges;", .methodLink RX9 346 yX1_isSet, .instanceMethod yX1_isSet, .selects RX1 yX1_isSet yX1_isSet, .initialized RX1, .code yX1_isSet cX1_isSet 2 (some .boolean), .fieldLink RX1 9 "RiverModel$Gauges" "whats" "[I", .code yX9_isBeyond cX9_isBeyond 2 (some .boolean), .fieldLink RX9 53 "RiverModel" "now" "LRiverModel$Course;", .fieldLink RX9 144 "RiverModel$Course" "hours" "I", .code yX9_weightAbove cX9_weightAbove 8 (some .int), .fieldLink RX9 259 "RiverModel$Worlds" "weights" "[I", .code yX9_peakAhead cX9_peakAhead 9 (some .long), .fieldLink RX9 57 "RiverModel" "trial" "LRiverModel$Course;", .methodLink RX9 330 yX0_copyFrom, .instanceMethod yX0_copyFrom, .selects RX0 yX0_copyFrom yX0_copyFrom, .initialized RX0, .methodLink RX9 371 yX8_rainAhead, .instanceMethod yX8_rainAhead, .selects RX8 yX8_rainAhead yX8_rainAhead, .fieldLink RX9 19 "RiverModel" "model" "LRiverModel$Model;", .fieldLink RX9 39 "RiverModel" "skyA" "LRiverModel$Sky;", .methodLink RX9 360 yX6_tempIn, .instanceMethod yX6_tempIn, .selects RX6 yX6_tempIn yX6_tempIn, .initialized RX6, .methodLink RX9 363 yX0_goHour, .instanceMethod yX0_goHour, .selects RX0 yX0_goHour yX0_goHour, .methodLink RX9 215 yX1_reading, .instanceMethod yX1_reading, .selects RX1 yX1_reading yX1_reading, .methodLink RX9 374 Lib.MathLoose.max_long.x, .static Lib.MathLoose.max_long.x, .initialized "java/lang/Math", .code Lib.MathLoose.max_long.x Lib.MathLoose.max_long.code 4 (some .long), .methodLink RX9 357 yX6_rainIn, .instanceMethod yX6_rainIn, .selects RX6 yX6_rainIn yX6_rainIn, .code yX0_copyFrom cX0_copyFrom 2 none, .fieldLink RX0 9 "RiverModel$Course" "held" "[J", .methodLink RX0 54 arraycopyName, .native arraycopyName, .static arraycopyName, .initialized "java/lang/System", .fieldLink RX0 15 "RiverModel$Course" "moved" "[J", .fieldLink RX0 18 "RiverModel$Course" "openings" "[I", .fieldLink RX0 22 "RiverModel$Course" "due" "[J", .fieldLink RX0 25 "RiverModel$Course" "rained" "J", .fieldLink RX0 29 "RiverModel$Course" "air" "J", .fieldLink RX0 32 "RiverModel$Course" "sea" "J", .fieldLink RX0 35 "RiverModel$Course" "hours" "I", .code yX8_rainAhead cX8_rainAhead 3 (some .int), .static yX9_isNoWorld, .fieldLink RX8 18 "RiverModel$Worlds" "rains" "[I", .code yX9_isNoWorld cX9_isNoWorld 1 (some .boolean), .code yX6_tempIn cX6_tempIn 2 (some .int), .fieldLink RX6 15 "RiverModel$Sky" "temps" "[I", .code yX0_goHour cX0_goHour 7 none, .methodLink RX0 72 yX0_bringDue, .instanceMethod yX0_bringDue, .selects RX0 yX0_bringDue yX0_bringDue, .fieldLink RX0 75 "RiverModel$Model" "many" "I", .methodLink RX0 78 yX0_amountOf, .instanceMethod yX0_amountOf, .selects RX0 yX0_amountOf yX0_amountOf, .methodLink RX0 82 yX0_move, .instanceMethod yX0_move, .selects RX0 yX0_move yX0_move, .code yX0_bringDue cX0_bringDue 3 none, .code yX0_amountOf cX0_amountOf 11 (some .long), .methodLink RX0 86 yX4_cell, .instanceMethod yX4_cell, .selects RX4 yX4_cell yX4_cell, .initialized RX4, .static yX9_isNoStore, .methodLink RX0 110 yX4_gateOf, .instanceMethod yX4_gateOf, .selects RX4 yX4_gateOf yX4_gateOf, .methodLink RX0 113 yX0_openingOf, .instanceMethod yX0_openingOf, .selects RX0 yX0_openingOf yX0_openingOf, .methodLink RX0 107 Lib.MathLoose.min_long.x, .static Lib.MathLoose.min_long.x, .code Lib.MathLoose.min_long.x Lib.MathLoose.min_long.code 4 (some .long), .methodLink RX0 94 yX0_leakOf, .static yX0_leakOf, .constantLong RX0 117 (100), .methodLink RX0 98 yX4_capacityOf, .instanceMethod yX4_capacityOf, .selects RX4 yX4_capacityOf yX4_capacityOf, .methodLink RX0 101 Lib.MathLoose.max_long.x, .constantLong RX0 119 (10), .code yX4_cell cX4_cell 3 (some .int), .fieldLink RX4 9 "RiverModel$Model" "cells" "[I", .code yX9_isNoStore cX9_isNoStore 1 (some .boolean), .code yX4_gateOf cX4_gateOf 3 (some .int), .fieldLink RX4 28 "RiverModel$Model" "gates" "I", .fieldLink RX4 18 "RiverModel$Model" "gateItems" "[I", .code yX0_openingOf cX0_openingOf 2 (some .long), .static yX9_isNoGate, .code yX9_isNoGate cX9_isNoGate 1 (some .boolean), .code yX0_leakOf cX0_leakOf 8 (some .long), .code yX4_capacityOf cX4_capacityOf 2 (some .int), .methodLink RX4 66 yX4_hasStore, .instanceMethod yX4_hasStore, .selects RX4 yX4_hasStore yX4_hasStore, .fieldLink RX4 15 "RiverModel$Model" "storeItems" "[I", .methodLink RX4 73 yX4_cell, .code yX4_hasStore cX4_hasStore 2 (some .boolean), .code yX0_move cX0_move 8 none, .methodLink RX0 124 yX0_send, .instanceMethod yX0_send, .selects RX0 yX0_send yX0_send, .code yX0_send cX0_send 5 none, .code yX1_reading cX1_reading 4 (some .long), .methodLink RX1 35 yX1_isSet, .fieldLink RX1 15 "RiverModel$Gauges" "places" "[I", .fieldLink RX1 50 "RiverModel$Course" "held" "[J", .static yX9_isNoItem, .fieldLink RX1 41 "RiverModel$Course" "moved" "[J", .code yX9_isNoItem cX9_isNoItem 1 (some .boolean), .code yX6_rainIn cX6_rainIn 2 (some .int), .fieldLink RX6 9 "RiverModel$Sky" "rains" "[I", .code yX8_weightOfAll cX8_weightOfAll 3 (some .int), .fieldLink RX8 9 "RiverModel$Worlds" "weights" "[I", .code yX8_enter cX8_enter 3 none, .fieldLink RX8 15 "RiverModel$Worlds" "warnings" "[I"] ++ wsX90 ++ wsX10 ++ wsX00 ++ wsX80 ++ wsX60 ++ wsX40)
set_option maxRecDepth 20000 in
theorem gu_X9_warn_X9_isNoGauge_205 : GoodIn uX9_warn (va_wsS RX9 205 yX9_isNoGauge uX9_isNoGauge) := goodIn_r _ [1, 2, 3, 26] rfl (by decide +kernel)
set_option maxRecDepth 20000 in
theorem gu_X9_warn_X9_isOutside_99 : GoodIn uX9_warn (va_wsS RX9 99 yX9_isOutside uX9_isOutside) := goodIn_r _ [4, 5, 3, 27] rfl (by decide +kernel)
set_option maxRecDepth 20000 in
theorem gu_X9_warn_X9_lacksGauge_212 : GoodIn uX9_warn (wsV RX9 212 RX9 yX9_lacksGauge uX9_lacksGauge) := goodIn_r _ [6, 7, 8, 3, 28, 29, 30, 31, 32, 33, 34, 35, 36, 159, 160, 161, 162, 163, 164, 165, 166, 167, 168, 169, 170, 171, 172, 173, 174, 175, 176, 177, 178, 179, 180] rfl (by decide +kernel)
set_option maxRecDepth 20000 in
theorem gu_X9_warn_X9_isBeyond_265 : GoodIn uX9_warn (wsV RX9 265 RX9 yX9_isBeyond uX9_isBeyond) := goodIn_r _ [9, 10, 11, 3, 37, 38, 39, 159, 160, 161, 162, 163, 164, 165, 166, 167, 168, 169, 170, 171, 172, 173, 174, 175, 176, 181, 182, 183, 184, 185, 186, 187, 188] rfl (by decide +kernel)
set_option maxRecDepth 20000 in
theorem gu_X9_warn_X9_weightAbove_268 : GoodIn uX9_warn (wsV RX9 268 RX9 yX9_weightAbove uX9_weightAbove) := goodIn_r _ [12, 13, 14, 3, 40, 15, 41, 20, 21, 22, 3, 42, 43, 38, 44, 45, 46, 47, 39, 48, 49, 50, 19, 51, 52, 53, 54, 55, 56, 57, 58, 59, 30, 60, 61, 62, 34, 63, 64, 65, 66, 67, 68, 69, 70, 71, 72, 73, 74, 75, 76, 77, 78, 79, 80, 81, 82, 83, 84, 5, 85, 86, 27, 87, 88, 89, 90, 91, 92, 93, 94, 95, 96, 97, 98, 99, 100, 101, 102, 103, 104, 105, 106, 107, 108, 109, 110, 111, 112, 113, 114, 115, 116, 117, 118, 119, 120, 121, 122, 123, 124, 125, 126, 127, 128, 129, 130, 131, 132, 133, 134, 135, 136, 137, 138, 139, 140, 141, 142, 143, 144, 145, 146, 147, 32, 33, 148, 36, 149, 150, 151, 35, 152, 153, 154, 159, 160, 161, 162, 163, 164, 165, 166, 167, 168, 169, 170, 171, 172, 173, 174, 175, 176, 189, 190, 191, 181, 182, 183, 184, 185, 186, 187, 188, 192, 193, 194, 195, 196, 197, 198, 199, 177, 178, 179, 180] rfl (by decide +kernel)
set_option maxRecDepth 20000 in
theorem gu_X9_warn_X8_weightOfAll_272 : GoodIn uX9_warn (wsV RX9 272 RX8 yX8_weightOfAll uX8_weightOfAll) := goodIn_r _ [16, 17, 18, 19, 155, 156, 189, 190, 191] rfl (by decide +kernel)
set_option maxRecDepth 20000 in
theorem gu_X9_warn_X9_peakAhead_275 : GoodIn uX9_warn (wsV RX9 275 RX9 yX9_peakAhead uX9_peakAhead) := goodIn_r _ [20, 21, 22, 3, 42, 43, 38, 44, 45, 46, 47, 39, 15, 48, 49, 50, 19, 51, 52, 53, 54, 55, 56, 57, 58, 59, 30, 60, 61, 62, 34, 63, 64, 65, 66, 67, 68, 69, 70, 71, 72, 73, 74, 75, 76, 77, 78, 79, 80, 81, 82, 83, 3, 84, 5, 85, 86, 27, 87, 88, 89, 90, 91, 92, 93, 94, 95, 96, 97, 98, 99, 100, 101, 102, 103, 104, 105, 106, 107, 108, 109, 110, 111, 112, 113, 114, 115, 116, 117, 118, 119, 120, 121, 122, 123, 124, 125, 126, 127, 128, 129, 130, 131, 132, 133, 134, 135, 136, 137, 138, 139, 140, 141, 142, 143, 144, 145, 146, 147, 32, 33, 148, 36, 149, 150, 151, 35, 152, 153, 154, 159, 160, 161, 162, 163, 164, 165, 166, 167, 168, 169, 170, 171, 172, 173, 174, 175, 176, 181, 182, 183, 184, 185, 186, 187, 188, 189, 190, 191, 192, 193, 194, 195, 196, 197, 198, 199, 177, 178, 179, 180] rfl (by decide +kernel)
set_option maxRecDepth 20000 in
theorem gu_X9_warn_X8_enter_279 : GoodIn uX9_warn (wsV RX9 279 RX8 yX8_enter uX8_enter) := goodIn_r _ [23, 24, 25, 19, 157, 158, 189, 190, 191] rfl (by decide +kernel)
set_option maxHeartbeats 4000000 in
set_option maxRecDepth 100000 in
theorem s_X9_warn (l : Launch) (D : va_G) (t : Nat → Nat) (cI cL cC : ClassId) (gC : Int32) (gE : Int32) (G : Nat) (gW : Nat → Int32) (gA : Nat → Int32) (a0 : Nat) (a1 : Int32) (a2 : Int32) (a3 : Int64) (a4 : Int32) (hGb : G ≤ 100000000) (k_a0 : t a0 = 1) : tM l yX9_warn uX9_warn 6 154 D (gF cI cL cC gC gE G gW gA) (gF cI cL cC gC gE (G + 120) gW gA) t cI cL cC [.ref a0, .int a1, .int a2, .long a3, .int a4] wrAll (pI (fun r => True)) := by
  refine tM.ofW (cc := cX9_warn) (maxL := 8) (ret := (some .int)) (by decide) rfl (Nat.le_of_ble_eq_true rfl) ?_
  intro p e s m below meth c hx hb hr hml hown hts hlk H locs hG hK hE hS ls hl
  have hl : lv_has ls 8 [(0, .ref a0), (1, .int a1), (2, .int a2), (3, .long a3), (5, .int a4)] := hl
  have in9 : ∀ w ∈ wsX90, w ∈ uX9_warn := fun w h => List.mem_cons_of_mem _ (List.mem_append_left _ (List.mem_append_left _ (List.mem_append_left _ (List.mem_append_left _ (List.mem_append_left _ (List.mem_append_right _ h))))))
  refine lv_iload_n hx hb dX9_warn_0 rfl (lv_at hl 1 rfl) ?_
  refine ty_calli ((W.runS (As := [.int a1]) (rest := []) ⟨hx, hb, hml, hown, hts⟩ (s_X9_isNoGauge l D t cI cL cC gC gE G gW gA a1 ) (va_cwS 1 hts gu_X9_warn_X9_isNoGauge_205 rfl rfl rfl (by decide +kernel) ⟨Nat.le_of_ble_eq_true rfl, Nat.le_of_ble_eq_true rfl⟩) (tP_S hG hE) rfl rfl hl.1 rfl (lv_room (Nat.le_of_ble_eq_true rfl)) dX9_warn_1 ⟨Nat.le_of_ble_eq_true rfl, Nat.le_of_ble_eq_true rfl⟩)) hS (fun k h => by simp [wr0] at h) (fun r_1 H locs hp_2 hG hS o_3 => ?_)
  rcases hp_2 with ⟨rfl, hc_205⟩ | ⟨rfl, hc_206, hc_207⟩
  · skip
    refine lv_if_ne (tgt := 28) hx hb dX9_warn_4 (by decide) (fun _ => ?_) (fun q => absurd q (by decide))
    refine lv_iconst (v := (-1)) hx hb dX9_warn_28 (by decide) ?_
    exact ty_iret hx hb hr hlk (hG.weak (fun _ _ => gF_mono (by omega))) hS True.intro dX9_warn_29
  · skip
    refine lv_if_ne (tgt := 28) hx hb dX9_warn_4 (by decide) (fun q => absurd rfl q) (fun _ => ?_)
    refine lv_iload_n hx hb dX9_warn_7 rfl (lv_at hl 2 rfl) ?_
    refine lv_pc (pc2 := 8) rfl ?_
    refine lv_iconst (v := 1) hx hb dX9_warn_8 (by decide) ?_
    refine lv_bipush (v := 24) hx hb dX9_warn_9 (by decide) ?_
    refine ty_calli ((W.runS (As := [.int a2, .int 1, .int 24]) (rest := []) ⟨hx, hb, hml, hown, hts⟩ (s_X9_isOutside l D t cI cL cC gC gE G gW gA a2 1 24 1 24 (by decide) (by decide) ) (va_cwS 3 hts gu_X9_warn_X9_isOutside_99 rfl rfl rfl (by decide +kernel) ⟨Nat.le_of_ble_eq_true rfl, Nat.le_of_ble_eq_true rfl⟩) (tP_S hG hE) rfl rfl hl.1 rfl (lv_room (Nat.le_of_ble_eq_true rfl)) dX9_warn_11 ⟨Nat.le_of_ble_eq_true rfl, Nat.le_of_ble_eq_true rfl⟩)) hS (fun k h => by simp [wr0] at h) (fun r_4 H locs hp_5 hG hS o_6 => ?_)
    rcases hp_5 with ⟨rfl, hc_208⟩ | ⟨rfl, hc_209, hc_210⟩
    · skip
      refine lv_if_ne (tgt := 28) hx hb dX9_warn_14 (by decide) (fun _ => ?_) (fun q => absurd q (by decide))
      refine lv_iconst (v := (-1)) hx hb dX9_warn_28 (by decide) ?_
      exact ty_iret hx hb hr hlk (hG.weak (fun _ _ => gF_mono (by omega))) hS True.intro dX9_warn_29
    · skip
      refine lv_if_ne (tgt := 28) hx hb dX9_warn_14 (by decide) (fun q => absurd rfl q) (fun _ => ?_)
      refine lv_iload hx hb dX9_warn_17 (lv_at hl 4 rfl) ?_
      refine lv_pc (pc2 := 19) rfl ?_
      refine lv_iconst (v := 0) hx hb dX9_warn_19 (by decide) ?_
      refine lv_bipush (v := 100) hx hb dX9_warn_20 (by decide) ?_
      refine ty_calli ((W.runS (As := [.int a4, .int 0, .int 100]) (rest := []) ⟨hx, hb, hml, hown, hts⟩ (s_X9_isOutside l D t cI cL cC gC gE G gW gA a4 0 100 0 100 (by decide) (by decide) ) (va_cwS 3 hts gu_X9_warn_X9_isOutside_99 rfl rfl rfl (by decide +kernel) ⟨Nat.le_of_ble_eq_true rfl, Nat.le_of_ble_eq_true rfl⟩) (tP_S hG hE) rfl rfl hl.1 rfl (lv_room (Nat.le_of_ble_eq_true rfl)) dX9_warn_22 ⟨Nat.le_of_ble_eq_true rfl, Nat.le_of_ble_eq_true rfl⟩)) hS (fun k h => by simp [wr0] at h) (fun r_7 H locs hp_8 hG hS o_9 => ?_)
      rcases hp_8 with ⟨rfl, hc_211⟩ | ⟨rfl, hc_212, hc_213⟩
      · skip
        refine lv_if_eq (tgt := 30) hx hb dX9_warn_25 (by decide) (fun q => absurd q (by decide)) (fun _ => ?_)
        refine lv_iconst (v := (-1)) hx hb dX9_warn_28 (by decide) ?_
        exact ty_iret hx hb hr hlk (hG.weak (fun _ _ => gF_mono (by omega))) hS True.intro dX9_warn_29
      · skip
        refine lv_if_eq (tgt := 30) hx hb dX9_warn_25 (by decide) (fun _ => ?_) (fun q => absurd (by decide) q)
        refine lv_aload_n hx hb dX9_warn_30 rfl (lv_at hl 0 rfl) ?_
        refine lv_pc (pc2 := 31) rfl ?_
        refine lv_iload_n hx hb dX9_warn_31 rfl (lv_at hl 1 rfl) ?_
        obtain ⟨r_10, r_12, r_14, r_16, v_18, v_19, r_20, r_22, r_24, r_26, r_28, r_30, r_32, v_34, r_36, r_38, r_40, r_42, at_44, h_11, h_13, h_15, h_17, h_21, h_23, h_25, h_27, h_29, h_31, h_33, h_35, h_37, h_39, h_41, h_43⟩ := gF_o1 hG k_a0
        refine ty_calli ((W.runV (As := [.int a1]) (rest := []) ⟨hx, hb, hml, hown, hts⟩ (s_X9_lacksGauge l D t cI cL cC gC gE G gW gA a0 a1 k_a0) (cwV 1 hts gu_X9_warn_X9_lacksGauge_212 rfl rfl rfl (by decide +kernel) ⟨Nat.le_of_ble_eq_true rfl, Nat.le_of_ble_eq_true rfl⟩) (tP_V hG hE at_44 rfl) rfl rfl hl.1 rfl (lv_room (Nat.le_of_ble_eq_true rfl)) dX9_warn_32 ⟨Nat.le_of_ble_eq_true rfl, Nat.le_of_ble_eq_true rfl⟩)) hS (fun k h => by simp [wr0] at h) (fun r_45 H locs hp_46 hG hS o_47 => ?_)
        have at_44 := va_at.keptC at_44 o_47 k_a0 rfl
        rcases hp_46 with rfl | rfl
        · skip
          refine lv_if_ne (tgt := 46) hx hb dX9_warn_35 (by decide) (fun q => absurd rfl q) (fun _ => ?_)
          refine lv_aload_n hx hb dX9_warn_38 rfl (lv_at hl 0 rfl) ?_
          refine lv_iload_n hx hb dX9_warn_39 rfl (lv_at hl 2 rfl) ?_
          refine ty_calli ((W.runV (As := [.int a2]) (rest := []) ⟨hx, hb, hml, hown, hts⟩ (s_X9_isBeyond l D t cI cL cC gC gE G gW gA a0 a2 k_a0) (cwV 1 hts gu_X9_warn_X9_isBeyond_265 rfl rfl rfl (by decide +kernel) ⟨Nat.le_of_ble_eq_true rfl, Nat.le_of_ble_eq_true rfl⟩) (tP_V hG hE at_44 rfl) rfl rfl hl.1 rfl (lv_room (Nat.le_of_ble_eq_true rfl)) dX9_warn_40 ⟨Nat.le_of_ble_eq_true rfl, Nat.le_of_ble_eq_true rfl⟩)) hS (fun k h => by simp [wr0] at h) (fun r_48 H locs hp_49 hG hS o_50 => ?_)
          have at_44 := va_at.keptC at_44 o_50 k_a0 rfl
          rcases hp_49 with rfl | rfl
          · skip
            refine lv_if_eq (tgt := 49) hx hb dX9_warn_43 (by decide) (fun _ => ?_) (fun q => absurd (by decide) q)
            refine lv_aload_n hx hb dX9_warn_49 rfl (lv_at hl 0 rfl) ?_
            refine lv_pc (pc2 := 50) rfl ?_
            refine lv_iload_n hx hb dX9_warn_50 rfl (lv_at hl 1 rfl) ?_
            refine lv_iload_n hx hb dX9_warn_51 rfl (lv_at hl 2 rfl) ?_
            refine lv_lload_n hx hb dX9_warn_52 rfl (lv_at hl 3 rfl) ?_
            refine ty_calli ((W.runV (As := [.int a1, .int a2, .long a3]) (rest := []) ⟨hx, hb, hml, hown, hts⟩ (s_X9_weightAbove l D t cI cL cC gC gE G gW gA a0 a1 a2 a3 (by omega) (by omega) k_a0) (cwV 3 hts gu_X9_warn_X9_weightAbove_268 rfl rfl rfl (by decide +kernel) ⟨Nat.le_of_ble_eq_true rfl, Nat.le_of_ble_eq_true rfl⟩) (tP_V hG hE at_44 rfl) rfl rfl hl.1 rfl (lv_room (Nat.le_of_ble_eq_true rfl)) dX9_warn_53 ⟨Nat.le_of_ble_eq_true rfl, Nat.le_of_ble_eq_true rfl⟩)) hS (wrL_sub (by decide)) (fun r_51 H locs hp_52 hG hS o_53 => ?_)
            have at_44 := va_at.keptC at_44 o_53 k_a0 rfl
            refine lv_bipush (v := 100) hx hb dX9_warn_56 (by decide) ?_
            refine lv_imul hx hb dX9_warn_58 ?_
            refine lv_topi (fun x_54 e_55 => ?_)
            refine lv_iload hx hb dX9_warn_59 (lv_at hl 4 rfl) ?_
            refine lv_aload_n hx hb dX9_warn_61 rfl (lv_at hl 0 rfl) ?_
            refine lv_pc (pc2 := 62) rfl ?_
            refine va_get (D := D) (ci := 8) (v := .ref r_40) (C := RX9) (T := TX9) (N := 18) hx hb hts in9 hown hK (va_one at_44) 0 rfl rfl 16 (by decide) (hts (.fieldLink RX9 88 "RiverModel" "worlds" "LRiverModel$Worlds;") (List.mem_of_getElem? (i := 15) rfl)) (fun _ h9 => h9) rfl dX9_warn_62 ?_
            obtain ⟨r_56, r_58, r_60, at_62, h_57, h_59, h_61⟩ := gF_o8 hG h_41
            refine ty_calli ((W.runV (As := []) (rest := [.int a4, .int x_54]) ⟨hx, hb, hml, hown, hts⟩ (s_X8_weightOfAll l D t cI cL cC gC gE (G + 96) gW gA r_40 h_41) (cwV 0 hts gu_X9_warn_X8_weightOfAll_272 rfl rfl rfl (by decide +kernel) ⟨Nat.le_of_ble_eq_true rfl, Nat.le_of_ble_eq_true rfl⟩) (tP_V hG hE at_62 rfl) rfl rfl hl.1 rfl (lv_room (Nat.le_of_ble_eq_true rfl)) dX9_warn_65 ⟨Nat.le_of_ble_eq_true rfl, Nat.le_of_ble_eq_true rfl⟩)) hS (fun k h => by simp [wr0] at h) (fun r_63 H locs hp_64 hG hS o_65 => ?_)
            have at_44 := va_at.keptC at_44 o_65 k_a0 rfl
            have at_62 := va_at.keptC at_62 o_65 h_41 rfl
            refine lv_imul hx hb dX9_warn_68 ?_
            refine lv_topi (fun x_66 e_67 => ?_)
            refine lv_icmp_lt (tgt := 76) hx hb dX9_warn_69 (by decide) (fun c_68 => ?_) (fun c_68 => ?_)
            · skip
              have c_68 : x_54.toInt < x_66.toInt := q_lt c_68
              refine lv_iconst (v := 0) hx hb dX9_warn_76 (by decide) ?_
              refine lv_istore (lv' := [(6, .int 0), (0, .ref a0), (1, .int a1), (2, .int a2), (3, .long a3), (5, .int a4)]) hx hb dX9_warn_77 hl (by decide) rfl (fun ls hl => ?_)
              refine lv_aload_n hx hb dX9_warn_79 rfl (lv_at hl 1 rfl) ?_
              refine lv_iload_n hx hb dX9_warn_80 rfl (lv_at hl 2 rfl) ?_
              refine lv_pc (pc2 := 81) rfl ?_
              refine lv_iload_n hx hb dX9_warn_81 rfl (lv_at hl 3 rfl) ?_
              refine lv_iconst (v := (-1)) hx hb dX9_warn_82 (by decide) ?_
              refine ty_calll ((W.runV (As := [.int a1, .int a2, .int (-1)]) (rest := []) ⟨hx, hb, hml, hown, hts⟩ (s_X9_peakAhead l D t cI cL cC gC gE (G + 96) gW gA a0 a1 a2 (-1) (by omega) (by omega) k_a0) (cwV 3 hts gu_X9_warn_X9_peakAhead_275 rfl rfl rfl (by decide +kernel) ⟨Nat.le_of_ble_eq_true rfl, Nat.le_of_ble_eq_true rfl⟩) (tP_V hG hE at_44 rfl) rfl rfl hl.1 rfl (lv_room (Nat.le_of_ble_eq_true rfl)) dX9_warn_83 ⟨Nat.le_of_ble_eq_true rfl, Nat.le_of_ble_eq_true rfl⟩)) hS (wrL_sub (by decide)) (fun z_69 H locs hp_70 hG hS o_71 => ?_)
              have at_44 := va_at.keptC at_44 o_71 k_a0 rfl
              have at_62 := va_at.keptC at_62 o_71 h_41 rfl
              refine lv_lload_n hx hb dX9_warn_86 rfl (lv_at hl 4 rfl) ?_
              refine W.lcmp hx hb dX9_warn_87 ?_
              refine lv_if_le (tgt := 95) hx hb dX9_warn_88 (by decide) (fun c_72 => ?_) (fun c_72 => ?_)
              · skip
                have c_72 : z_69.toInt ≤ a3.toInt := q_cmp_le c_72
                refine lv_iconst (v := 0) hx hb dX9_warn_95 (by decide) ?_
                refine lv_istore (lv' := [(7, .int 0), (6, .int 0), (0, .ref a0), (1, .int a1), (2, .int a2), (3, .long a3), (5, .int a4)]) hx hb dX9_warn_96 hl (by decide) rfl (fun ls hl => ?_)
                refine lv_pc (pc2 := 98) rfl ?_
                refine lv_aload_n hx hb dX9_warn_98 rfl (lv_at hl 2 rfl) ?_
                refine va_get (D := D) (ci := 8) (v := .ref r_40) (C := RX9) (T := TX9) (N := 18) hx hb hts in9 hown hK (va_one at_44) 0 rfl rfl 16 (by decide) (hts (.fieldLink RX9 88 "RiverModel" "worlds" "LRiverModel$Worlds;") (List.mem_of_getElem? (i := 15) rfl)) (fun _ h9 => h9) rfl dX9_warn_99 ?_
                refine lv_iload hx hb dX9_warn_102 (lv_at hl 1 rfl) ?_
                refine lv_iload hx hb dX9_warn_104 (lv_at hl 0 rfl) ?_
                refine ty_callv ((W.runV (As := [.int 0, .int 0]) (rest := []) ⟨hx, hb, hml, hown, hts⟩ (s_X8_enter l D t cI cL cC gC gE (G + 120) gW gA r_40 0 0 h_41) (cwV 2 hts gu_X9_warn_X8_enter_279 rfl rfl rfl (by decide +kernel) ⟨Nat.le_of_ble_eq_true rfl, Nat.le_of_ble_eq_true rfl⟩) (tP_V hG hE at_62 rfl) rfl rfl hl.1 rfl (lv_room (Nat.le_of_ble_eq_true rfl)) dX9_warn_106 ⟨Nat.le_of_ble_eq_true rfl, Nat.le_of_ble_eq_true rfl⟩)) hS (wrL_sub (by decide)) (fun H locs hp_74 hG hS o_75 => ?_)
                have at_44 := va_at.keptC at_44 o_75 k_a0 rfl
                have at_62 := va_at.keptC at_62 o_75 h_41 rfl
                refine lv_iload hx hb dX9_warn_109 (lv_at hl 1 rfl) ?_
                refine lv_if_eq (tgt := 118) hx hb dX9_warn_111 (by decide) (fun _ => ?_) (fun q => absurd (by decide) q)
                refine lv_iconst (v := 0) hx hb dX9_warn_118 (by decide) ?_
                refine lv_pc (pc2 := 119) rfl ?_
                exact ty_iret hx hb hr hlk hG hS True.intro dX9_warn_119
              · skip
                have c_72 : a3.toInt < z_69.toInt := q_cmp_nle c_72
                refine lv_iconst (v := 1) hx hb dX9_warn_91 (by decide) ?_
                refine lv_goto (tgt := 96) hx hb dX9_warn_92 (by decide) ?_
                refine lv_istore (lv' := [(7, .int 1), (6, .int 0), (0, .ref a0), (1, .int a1), (2, .int a2), (3, .long a3), (5, .int a4)]) hx hb dX9_warn_96 hl (by decide) rfl (fun ls hl => ?_)
                refine lv_aload_n hx hb dX9_warn_98 rfl (lv_at hl 2 rfl) ?_
                refine va_get (D := D) (ci := 8) (v := .ref r_40) (C := RX9) (T := TX9) (N := 18) hx hb hts in9 hown hK (va_one at_44) 0 rfl rfl 16 (by decide) (hts (.fieldLink RX9 88 "RiverModel" "worlds" "LRiverModel$Worlds;") (List.mem_of_getElem? (i := 15) rfl)) (fun _ h9 => h9) rfl dX9_warn_99 ?_
                refine lv_iload hx hb dX9_warn_102 (lv_at hl 1 rfl) ?_
                refine lv_iload hx hb dX9_warn_104 (lv_at hl 0 rfl) ?_
                refine lv_pc (pc2 := 106) rfl ?_
                refine ty_callv ((W.runV (As := [.int 0, .int 1]) (rest := []) ⟨hx, hb, hml, hown, hts⟩ (s_X8_enter l D t cI cL cC gC gE (G + 120) gW gA r_40 0 1 h_41) (cwV 2 hts gu_X9_warn_X8_enter_279 rfl rfl rfl (by decide +kernel) ⟨Nat.le_of_ble_eq_true rfl, Nat.le_of_ble_eq_true rfl⟩) (tP_V hG hE at_62 rfl) rfl rfl hl.1 rfl (lv_room (Nat.le_of_ble_eq_true rfl)) dX9_warn_106 ⟨Nat.le_of_ble_eq_true rfl, Nat.le_of_ble_eq_true rfl⟩)) hS (wrL_sub (by decide)) (fun H locs hp_77 hG hS o_78 => ?_)
                have at_44 := va_at.keptC at_44 o_78 k_a0 rfl
                have at_62 := va_at.keptC at_62 o_78 h_41 rfl
                refine lv_iload hx hb dX9_warn_109 (lv_at hl 1 rfl) ?_
                refine lv_if_eq (tgt := 118) hx hb dX9_warn_111 (by decide) (fun _ => ?_) (fun q => absurd (by decide) q)
                refine lv_iconst (v := 0) hx hb dX9_warn_118 (by decide) ?_
                exact ty_iret hx hb hr hlk hG hS True.intro dX9_warn_119
            · skip
              have c_68 : x_66.toInt ≤ x_54.toInt := q_nlt c_68
              refine lv_iconst (v := 1) hx hb dX9_warn_72 (by decide) ?_
              refine lv_goto (tgt := 77) hx hb dX9_warn_73 (by decide) ?_
              refine lv_istore (lv' := [(6, .int 1), (0, .ref a0), (1, .int a1), (2, .int a2), (3, .long a3), (5, .int a4)]) hx hb dX9_warn_77 hl (by decide) rfl (fun ls hl => ?_)
              refine lv_pc (pc2 := 79) rfl ?_
              refine lv_aload_n hx hb dX9_warn_79 rfl (lv_at hl 1 rfl) ?_
              refine lv_iload_n hx hb dX9_warn_80 rfl (lv_at hl 2 rfl) ?_
              refine lv_iload_n hx hb dX9_warn_81 rfl (lv_at hl 3 rfl) ?_
              refine lv_iconst (v := (-1)) hx hb dX9_warn_82 (by decide) ?_
              refine ty_calll ((W.runV (As := [.int a1, .int a2, .int (-1)]) (rest := []) ⟨hx, hb, hml, hown, hts⟩ (s_X9_peakAhead l D t cI cL cC gC gE (G + 96) gW gA a0 a1 a2 (-1) (by omega) (by omega) k_a0) (cwV 3 hts gu_X9_warn_X9_peakAhead_275 rfl rfl rfl (by decide +kernel) ⟨Nat.le_of_ble_eq_true rfl, Nat.le_of_ble_eq_true rfl⟩) (tP_V hG hE at_44 rfl) rfl rfl hl.1 rfl (lv_room (Nat.le_of_ble_eq_true rfl)) dX9_warn_83 ⟨Nat.le_of_ble_eq_true rfl, Nat.le_of_ble_eq_true rfl⟩)) hS (wrL_sub (by decide)) (fun z_79 H locs hp_80 hG hS o_81 => ?_)
              have at_44 := va_at.keptC at_44 o_81 k_a0 rfl
              have at_62 := va_at.keptC at_62 o_81 h_41 rfl
              refine lv_lload_n hx hb dX9_warn_86 rfl (lv_at hl 4 rfl) ?_
              refine W.lcmp hx hb dX9_warn_87 ?_
              refine lv_if_le (tgt := 95) hx hb dX9_warn_88 (by decide) (fun c_82 => ?_) (fun c_82 => ?_)
              · skip
                have c_82 : z_79.toInt ≤ a3.toInt := q_cmp_le c_82
                refine lv_pc (pc2 := 95) rfl ?_
                refine lv_iconst (v := 0) hx hb dX9_warn_95 (by decide) ?_
                refine lv_istore (lv' := [(7, .int 0), (6, .int 1), (0, .ref a0), (1, .int a1), (2, .int a2), (3, .long a3), (5, .int a4)]) hx hb dX9_warn_96 hl (by decide) rfl (fun ls hl => ?_)
                refine lv_aload_n hx hb dX9_warn_98 rfl (lv_at hl 2 rfl) ?_
                refine va_get (D := D) (ci := 8) (v := .ref r_40) (C := RX9) (T := TX9) (N := 18) hx hb hts in9 hown hK (va_one at_44) 0 rfl rfl 16 (by decide) (hts (.fieldLink RX9 88 "RiverModel" "worlds" "LRiverModel$Worlds;") (List.mem_of_getElem? (i := 15) rfl)) (fun _ h9 => h9) rfl dX9_warn_99 ?_
                refine lv_iload hx hb dX9_warn_102 (lv_at hl 1 rfl) ?_
                refine lv_iload hx hb dX9_warn_104 (lv_at hl 0 rfl) ?_
                refine ty_callv ((W.runV (As := [.int 1, .int 0]) (rest := []) ⟨hx, hb, hml, hown, hts⟩ (s_X8_enter l D t cI cL cC gC gE (G + 120) gW gA r_40 1 0 h_41) (cwV 2 hts gu_X9_warn_X8_enter_279 rfl rfl rfl (by decide +kernel) ⟨Nat.le_of_ble_eq_true rfl, Nat.le_of_ble_eq_true rfl⟩) (tP_V hG hE at_62 rfl) rfl rfl hl.1 rfl (lv_room (Nat.le_of_ble_eq_true rfl)) dX9_warn_106 ⟨Nat.le_of_ble_eq_true rfl, Nat.le_of_ble_eq_true rfl⟩)) hS (wrL_sub (by decide)) (fun H locs hp_84 hG hS o_85 => ?_)
                have at_44 := va_at.keptC at_44 o_85 k_a0 rfl
                have at_62 := va_at.keptC at_62 o_85 h_41 rfl
                refine lv_iload hx hb dX9_warn_109 (lv_at hl 1 rfl) ?_
                refine lv_pc (pc2 := 111) rfl ?_
                refine lv_if_eq (tgt := 118) hx hb dX9_warn_111 (by decide) (fun q => absurd q (by decide)) (fun _ => ?_)
                refine lv_iconst (v := 1) hx hb dX9_warn_114 (by decide) ?_
                refine lv_goto (tgt := 119) hx hb dX9_warn_115 (by decide) ?_
                exact ty_iret hx hb hr hlk hG hS True.intro dX9_warn_119
              · skip
                have c_82 : a3.toInt < z_79.toInt := q_cmp_nle c_82
                refine lv_iconst (v := 1) hx hb dX9_warn_91 (by decide) ?_
                refine lv_goto (tgt := 96) hx hb dX9_warn_92 (by decide) ?_
                refine lv_istore (lv' := [(7, .int 1), (6, .int 1), (0, .ref a0), (1, .int a1), (2, .int a2), (3, .long a3), (5, .int a4)]) hx hb dX9_warn_96 hl (by decide) rfl (fun ls hl => ?_)
                refine lv_aload_n hx hb dX9_warn_98 rfl (lv_at hl 2 rfl) ?_
                refine lv_pc (pc2 := 99) rfl ?_
                refine va_get (D := D) (ci := 8) (v := .ref r_40) (C := RX9) (T := TX9) (N := 18) hx hb hts in9 hown hK (va_one at_44) 0 rfl rfl 16 (by decide) (hts (.fieldLink RX9 88 "RiverModel" "worlds" "LRiverModel$Worlds;") (List.mem_of_getElem? (i := 15) rfl)) (fun _ h9 => h9) rfl dX9_warn_99 ?_
                refine lv_iload hx hb dX9_warn_102 (lv_at hl 1 rfl) ?_
                refine lv_iload hx hb dX9_warn_104 (lv_at hl 0 rfl) ?_
                refine ty_callv ((W.runV (As := [.int 1, .int 1]) (rest := []) ⟨hx, hb, hml, hown, hts⟩ (s_X8_enter l D t cI cL cC gC gE (G + 120) gW gA r_40 1 1 h_41) (cwV 2 hts gu_X9_warn_X8_enter_279 rfl rfl rfl (by decide +kernel) ⟨Nat.le_of_ble_eq_true rfl, Nat.le_of_ble_eq_true rfl⟩) (tP_V hG hE at_62 rfl) rfl rfl hl.1 rfl (lv_room (Nat.le_of_ble_eq_true rfl)) dX9_warn_106 ⟨Nat.le_of_ble_eq_true rfl, Nat.le_of_ble_eq_true rfl⟩)) hS (wrL_sub (by decide)) (fun H locs hp_87 hG hS o_88 => ?_)
                have at_44 := va_at.keptC at_44 o_88 k_a0 rfl
                have at_62 := va_at.keptC at_62 o_88 h_41 rfl
                refine lv_iload hx hb dX9_warn_109 (lv_at hl 1 rfl) ?_
                refine lv_if_eq (tgt := 118) hx hb dX9_warn_111 (by decide) (fun q => absurd q (by decide)) (fun _ => ?_)
                refine lv_iconst (v := 1) hx hb dX9_warn_114 (by decide) ?_
                refine lv_goto (tgt := 119) hx hb dX9_warn_115 (by decide) ?_
                refine lv_pc (pc2 := 119) rfl ?_
                exact ty_iret hx hb hr hlk hG hS True.intro dX9_warn_119
          · skip
            refine lv_if_eq (tgt := 49) hx hb dX9_warn_43 (by decide) (fun q => absurd q (by decide)) (fun _ => ?_)
            refine lv_bipush (v := (-2)) hx hb dX9_warn_46 (by decide) ?_
            exact ty_iret hx hb hr hlk (hG.weak (fun _ _ => gF_mono (by omega))) hS True.intro dX9_warn_48
        · skip
          refine lv_if_ne (tgt := 46) hx hb dX9_warn_35 (by decide) (fun _ => ?_) (fun q => absurd q (by decide))
          refine lv_bipush (v := (-2)) hx hb dX9_warn_46 (by decide) ?_
          exact ty_iret hx hb hr hlk (hG.weak (fun _ _ => gF_mono (by omega))) hS True.intro dX9_warn_48
