theorem dX9_lacksItem_0 : decode cX9_lacksItem 0 = .ok (.aload_n 0, 1) := by decide +kernel
theorem dX9_lacksItem_1 : decode cX9_lacksItem 1 = .ok (.getfield 29, 3) := by decide +kernel
theorem dX9_lacksItem_4 : decode cX9_lacksItem 4 = .ok (.ifCond .eq 14, 3) := by decide +kernel
theorem dX9_lacksItem_7 : decode cX9_lacksItem 7 = .ok (.iload_n 1, 1) := by decide +kernel
theorem dX9_lacksItem_8 : decode cX9_lacksItem 8 = .ok (.aload_n 0, 1) := by decide +kernel
theorem dX9_lacksItem_9 : decode cX9_lacksItem 9 = .ok (.getfield 19, 3) := by decide +kernel
theorem dX9_lacksItem_12 : decode cX9_lacksItem 12 = .ok (.getfield 124, 3) := by decide +kernel
theorem dX9_lacksItem_15 : decode cX9_lacksItem 15 = .ok (.if_icmp .lt 7, 3) := by decide +kernel
theorem dX9_lacksItem_18 : decode cX9_lacksItem 18 = .ok (.iconst 1, 1) := by decide +kernel
theorem dX9_lacksItem_19 : decode cX9_lacksItem 19 = .ok (.goto 4, 3) := by decide +kernel
theorem dX9_lacksItem_22 : decode cX9_lacksItem 22 = .ok (.iconst 0, 1) := by decide +kernel
theorem dX9_lacksItem_23 : decode cX9_lacksItem 23 = .ok (.ireturn, 1) := by decide +kernel
theorem dX9_lacksStore_0 : decode cX9_lacksStore 0 = .ok (.aload_n 0, 1) := by decide +kernel
theorem dX9_lacksStore_1 : decode cX9_lacksStore 1 = .ok (.getfield 29, 3) := by decide +kernel
theorem dX9_lacksStore_4 : decode cX9_lacksStore 4 = .ok (.ifCond .eq 14, 3) := by decide +kernel
theorem dX9_lacksStore_7 : decode cX9_lacksStore 7 = .ok (.aload_n 0, 1) := by decide +kernel
theorem dX9_lacksStore_8 : decode cX9_lacksStore 8 = .ok (.getfield 19, 3) := by decide +kernel
theorem dX9_lacksStore_11 : decode cX9_lacksStore 11 = .ok (.iload_n 1, 1) := by decide +kernel
theorem dX9_lacksStore_12 : decode cX9_lacksStore 12 = .ok (.invokevirtual 343, 3) := by decide +kernel
theorem dX9_lacksStore_15 : decode cX9_lacksStore 15 = .ok (.ifCond .ne 7, 3) := by decide +kernel
theorem dX9_lacksStore_18 : decode cX9_lacksStore 18 = .ok (.iconst 1, 1) := by decide +kernel
theorem dX9_lacksStore_19 : decode cX9_lacksStore 19 = .ok (.goto 4, 3) := by decide +kernel
theorem dX9_lacksStore_22 : decode cX9_lacksStore 22 = .ok (.iconst 0, 1) := by decide +kernel
theorem dX9_lacksStore_23 : decode cX9_lacksStore 23 = .ok (.ireturn, 1) := by decide +kernel
theorem dX9_lacksGate_0 : decode cX9_lacksGate 0 = .ok (.aload_n 0, 1) := by decide +kernel
theorem dX9_lacksGate_1 : decode cX9_lacksGate 1 = .ok (.getfield 29, 3) := by decide +kernel
theorem dX9_lacksGate_4 : decode cX9_lacksGate 4 = .ok (.ifCond .eq 14, 3) := by decide +kernel
theorem dX9_lacksGate_7 : decode cX9_lacksGate 7 = .ok (.iload_n 1, 1) := by decide +kernel
theorem dX9_lacksGate_8 : decode cX9_lacksGate 8 = .ok (.aload_n 0, 1) := by decide +kernel
theorem dX9_lacksGate_9 : decode cX9_lacksGate 9 = .ok (.getfield 19, 3) := by decide +kernel
theorem dX9_lacksGate_12 : decode cX9_lacksGate 12 = .ok (.getfield 333, 3) := by decide +kernel
theorem dX9_lacksGate_15 : decode cX9_lacksGate 15 = .ok (.if_icmp .lt 7, 3) := by decide +kernel
theorem dX9_lacksGate_18 : decode cX9_lacksGate 18 = .ok (.iconst 1, 1) := by decide +kernel
theorem dX9_lacksGate_19 : decode cX9_lacksGate 19 = .ok (.goto 4, 3) := by decide +kernel
theorem dX9_lacksGate_22 : decode cX9_lacksGate 22 = .ok (.iconst 0, 1) := by decide +kernel
theorem dX9_lacksGate_23 : decode cX9_lacksGate 23 = .ok (.ireturn, 1) := by decide +kernel
theorem dX9_lacksGauge_0 : decode cX9_lacksGauge 0 = .ok (.aload_n 0, 1) := by decide +kernel
theorem dX9_lacksGauge_1 : decode cX9_lacksGauge 1 = .ok (.getfield 29, 3) := by decide +kernel
theorem dX9_lacksGauge_4 : decode cX9_lacksGauge 4 = .ok (.ifCond .eq 14, 3) := by decide +kernel
theorem dX9_lacksGauge_7 : decode cX9_lacksGauge 7 = .ok (.aload_n 0, 1) := by decide +kernel
theorem dX9_lacksGauge_8 : decode cX9_lacksGauge 8 = .ok (.getfield 74, 3) := by decide +kernel
theorem dX9_lacksGauge_11 : decode cX9_lacksGauge 11 = .ok (.iload_n 1, 1) := by decide +kernel
theorem dX9_lacksGauge_12 : decode cX9_lacksGauge 12 = .ok (.invokevirtual 346, 3) := by decide +kernel
theorem dX9_lacksGauge_15 : decode cX9_lacksGauge 15 = .ok (.ifCond .ne 7, 3) := by decide +kernel
theorem dX9_lacksGauge_18 : decode cX9_lacksGauge 18 = .ok (.iconst 1, 1) := by decide +kernel
theorem dX9_lacksGauge_19 : decode cX9_lacksGauge 19 = .ok (.goto 4, 3) := by decide +kernel
theorem dX9_lacksGauge_22 : decode cX9_lacksGauge 22 = .ok (.iconst 0, 1) := by decide +kernel
theorem dX9_lacksGauge_23 : decode cX9_lacksGauge 23 = .ok (.ireturn, 1) := by decide +kernel
theorem dX9_isBeyond_0 : decode cX9_isBeyond 0 = .ok (.aload_n 0, 1) := by decide +kernel
theorem dX9_isBeyond_1 : decode cX9_isBeyond 1 = .ok (.getfield 53, 3) := by decide +kernel
theorem dX9_isBeyond_4 : decode cX9_isBeyond 4 = .ok (.getfield 144, 3) := by decide +kernel
theorem dX9_isBeyond_7 : decode cX9_isBeyond 7 = .ok (.iload_n 1, 1) := by decide +kernel
theorem dX9_isBeyond_8 : decode cX9_isBeyond 8 = .ok (.iadd, 1) := by decide +kernel
theorem dX9_isBeyond_9 : decode cX9_isBeyond 9 = .ok (.bipush 96, 2) := by decide +kernel
theorem dX9_isBeyond_11 : decode cX9_isBeyond 11 = .ok (.if_icmp .le 7, 3) := by decide +kernel
theorem dX9_isBeyond_14 : decode cX9_isBeyond 14 = .ok (.iconst 1, 1) := by decide +kernel
theorem dX9_isBeyond_15 : decode cX9_isBeyond 15 = .ok (.goto 4, 3) := by decide +kernel
theorem dX9_isBeyond_18 : decode cX9_isBeyond 18 = .ok (.iconst 0, 1) := by decide +kernel
theorem dX9_isBeyond_19 : decode cX9_isBeyond 19 = .ok (.ireturn, 1) := by decide +kernel
theorem dX9_draftBecomesModel_0 : decode cX9_draftBecomesModel 0 = .ok (.aload_n 0, 1) := by decide +kernel
theorem dX9_draftBecomesModel_1 : decode cX9_draftBecomesModel 1 = .ok (.getfield 19, 3) := by decide +kernel
theorem dX9_draftBecomesModel_4 : decode cX9_draftBecomesModel 4 = .ok (.astore_n 1, 1) := by decide +kernel
theorem dX9_draftBecomesModel_5 : decode cX9_draftBecomesModel 5 = .ok (.aload_n 0, 1) := by decide +kernel
theorem dX9_draftBecomesModel_6 : decode cX9_draftBecomesModel 6 = .ok (.aload_n 0, 1) := by decide +kernel
theorem dX9_draftBecomesModel_7 : decode cX9_draftBecomesModel 7 = .ok (.getfield 23, 3) := by decide +kernel
theorem dX9_draftBecomesModel_10 : decode cX9_draftBecomesModel 10 = .ok (.putfield 19, 3) := by decide +kernel
theorem dX9_draftBecomesModel_13 : decode cX9_draftBecomesModel 13 = .ok (.aload_n 0, 1) := by decide +kernel
theorem dX9_draftBecomesModel_14 : decode cX9_draftBecomesModel 14 = .ok (.aload_n 1, 1) := by decide +kernel
theorem dX9_draftBecomesModel_15 : decode cX9_draftBecomesModel 15 = .ok (.putfield 23, 3) := by decide +kernel
theorem dX9_draftBecomesModel_18 : decode cX9_draftBecomesModel 18 = .ok (.aload_n 0, 1) := by decide +kernel
theorem dX9_draftBecomesModel_19 : decode cX9_draftBecomesModel 19 = .ok (.iconst 1, 1) := by decide +kernel
theorem dX9_draftBecomesModel_20 : decode cX9_draftBecomesModel 20 = .ok (.putfield 29, 3) := by decide +kernel
theorem dX9_draftBecomesModel_23 : decode cX9_draftBecomesModel 23 = .ok (.aload_n 0, 1) := by decide +kernel
theorem dX9_draftBecomesModel_24 : decode cX9_draftBecomesModel 24 = .ok (.iconst 0, 1) := by decide +kernel
theorem dX9_draftBecomesModel_25 : decode cX9_draftBecomesModel 25 = .ok (.putfield 33, 3) := by decide +kernel
theorem dX9_draftBecomesModel_28 : decode cX9_draftBecomesModel 28 = .ok (.aload_n 0, 1) := by decide +kernel
theorem dX9_draftBecomesModel_29 : decode cX9_draftBecomesModel 29 = .ok (.iconst 0, 1) := by decide +kernel
theorem dX9_draftBecomesModel_30 : decode cX9_draftBecomesModel 30 = .ok (.putfield 67, 3) := by decide +kernel
theorem dX9_draftBecomesModel_33 : decode cX9_draftBecomesModel 33 = .ok (.aload_n 0, 1) := by decide +kernel
theorem dX9_draftBecomesModel_34 : decode cX9_draftBecomesModel 34 = .ok (.getfield 53, 3) := by decide +kernel
theorem dX9_draftBecomesModel_37 : decode cX9_draftBecomesModel 37 = .ok (.aload_n 0, 1) := by decide +kernel
theorem dX9_draftBecomesModel_38 : decode cX9_draftBecomesModel 38 = .ok (.getfield 19, 3) := by decide +kernel
theorem dX9_draftBecomesModel_41 : decode cX9_draftBecomesModel 41 = .ok (.invokevirtual 147, 3) := by decide +kernel
theorem dX9_draftBecomesModel_44 : decode cX9_draftBecomesModel 44 = .ok (.iconst 0, 1) := by decide +kernel
theorem dX9_draftBecomesModel_45 : decode cX9_draftBecomesModel 45 = .ok (.istore_n 2, 1) := by decide +kernel
theorem dX9_draftBecomesModel_46 : decode cX9_draftBecomesModel 46 = .ok (.iload_n 2, 1) := by decide +kernel
theorem dX9_draftBecomesModel_47 : decode cX9_draftBecomesModel 47 = .ok (.bipush 16, 2) := by decide +kernel
theorem dX9_draftBecomesModel_49 : decode cX9_draftBecomesModel 49 = .ok (.if_icmp .ge 23, 3) := by decide +kernel
theorem dX9_draftBecomesModel_52 : decode cX9_draftBecomesModel 52 = .ok (.aload_n 0, 1) := by decide +kernel
theorem dX9_draftBecomesModel_53 : decode cX9_draftBecomesModel 53 = .ok (.getfield 46, 3) := by decide +kernel
theorem dX9_draftBecomesModel_56 : decode cX9_draftBecomesModel 56 = .ok (.iload_n 2, 1) := by decide +kernel
theorem dX9_draftBecomesModel_57 : decode cX9_draftBecomesModel 57 = .ok (.aload_n 0, 1) := by decide +kernel
theorem dX9_draftBecomesModel_58 : decode cX9_draftBecomesModel 58 = .ok (.getfield 19, 3) := by decide +kernel
theorem dX9_draftBecomesModel_61 : decode cX9_draftBecomesModel 61 = .ok (.iload_n 2, 1) := by decide +kernel
theorem dX9_draftBecomesModel_62 : decode cX9_draftBecomesModel 62 = .ok (.invokevirtual 347, 3) := by decide +kernel
theorem dX9_draftBecomesModel_65 : decode cX9_draftBecomesModel 65 = .ok (.iastore, 1) := by decide +kernel
theorem dX9_draftBecomesModel_66 : decode cX9_draftBecomesModel 66 = .ok (.iinc 2 1, 3) := by decide +kernel
theorem dX9_draftBecomesModel_69 : decode cX9_draftBecomesModel 69 = .ok (.goto (-23), 3) := by decide +kernel
theorem dX9_draftBecomesModel_72 : decode cX9_draftBecomesModel 72 = .ok (.return_, 1) := by decide +kernel
theorem dX9_pointHolds_0 : decode cX9_pointHolds 0 = .ok (.aload_n 0, 1) := by decide +kernel
theorem dX9_pointHolds_1 : decode cX9_pointHolds 1 = .ok (.getfield 23, 3) := by decide +kernel
theorem dX9_pointHolds_4 : decode cX9_pointHolds 4 = .ok (.aload_n 0, 1) := by decide +kernel
theorem dX9_pointHolds_5 : decode cX9_pointHolds 5 = .ok (.getfield 19, 3) := by decide +kernel
theorem dX9_pointHolds_8 : decode cX9_pointHolds 8 = .ok (.invokevirtual 316, 3) := by decide +kernel
theorem dX9_pointHolds_11 : decode cX9_pointHolds 11 = .ok (.aload_n 0, 1) := by decide +kernel
theorem dX9_pointHolds_12 : decode cX9_pointHolds 12 = .ok (.getfield 81, 3) := by decide +kernel
theorem dX9_pointHolds_15 : decode cX9_pointHolds 15 = .ok (.iload_n 1, 1) := by decide +kernel
theorem dX9_pointHolds_16 : decode cX9_pointHolds 16 = .ok (.aload_n 0, 1) := by decide +kernel
theorem dX9_pointHolds_17 : decode cX9_pointHolds 17 = .ok (.getfield 23, 3) := by decide +kernel
theorem dX9_pointHolds_20 : decode cX9_pointHolds 20 = .ok (.invokevirtual 350, 3) := by decide +kernel
theorem dX9_pointHolds_23 : decode cX9_pointHolds 23 = .ok (.ifCond .ne 5, 3) := by decide +kernel
theorem dX9_pointHolds_26 : decode cX9_pointHolds 26 = .ok (.iconst 0, 1) := by decide +kernel
theorem dX9_pointHolds_27 : decode cX9_pointHolds 27 = .ok (.ireturn, 1) := by decide +kernel
theorem dX9_pointHolds_28 : decode cX9_pointHolds 28 = .ok (.aload_n 0, 1) := by decide +kernel
theorem dX9_pointHolds_29 : decode cX9_pointHolds 29 = .ok (.getfield 57, 3) := by decide +kernel
theorem dX9_pointHolds_32 : decode cX9_pointHolds 32 = .ok (.aload_n 0, 1) := by decide +kernel
theorem dX9_pointHolds_33 : decode cX9_pointHolds 33 = .ok (.getfield 23, 3) := by decide +kernel
theorem dX9_pointHolds_36 : decode cX9_pointHolds 36 = .ok (.invokevirtual 147, 3) := by decide +kernel
theorem dX9_pointHolds_39 : decode cX9_pointHolds 39 = .ok (.aload_n 0, 1) := by decide +kernel
theorem dX9_pointHolds_40 : decode cX9_pointHolds 40 = .ok (.getfield 74, 3) := by decide +kernel
theorem dX9_pointHolds_43 : decode cX9_pointHolds 43 = .ok (.invokevirtual 354, 3) := by decide +kernel
theorem dX9_pointHolds_46 : decode cX9_pointHolds 46 = .ok (.istore_n 2, 1) := by decide +kernel
theorem dX9_pointHolds_47 : decode cX9_pointHolds 47 = .ok (.iconst 0, 1) := by decide +kernel
theorem dX9_pointHolds_48 : decode cX9_pointHolds 48 = .ok (.istore_n 3, 1) := by decide +kernel
theorem dX9_pointHolds_49 : decode cX9_pointHolds 49 = .ok (.iload_n 3, 1) := by decide +kernel
theorem dX9_pointHolds_50 : decode cX9_pointHolds 50 = .ok (.iload_n 2, 1) := by decide +kernel
theorem dX9_pointHolds_51 : decode cX9_pointHolds 51 = .ok (.if_icmp .gt 53, 3) := by decide +kernel
theorem dX9_pointHolds_54 : decode cX9_pointHolds 54 = .ok (.aload_n 0, 1) := by decide +kernel
theorem dX9_pointHolds_55 : decode cX9_pointHolds 55 = .ok (.getfield 57, 3) := by decide +kernel
theorem dX9_pointHolds_58 : decode cX9_pointHolds 58 = .ok (.aload_n 0, 1) := by decide +kernel
theorem dX9_pointHolds_59 : decode cX9_pointHolds 59 = .ok (.getfield 23, 3) := by decide +kernel
theorem dX9_pointHolds_62 : decode cX9_pointHolds 62 = .ok (.aload_n 0, 1) := by decide +kernel
theorem dX9_pointHolds_63 : decode cX9_pointHolds 63 = .ok (.getfield 39, 3) := by decide +kernel
theorem dX9_pointHolds_66 : decode cX9_pointHolds 66 = .ok (.iload_n 3, 1) := by decide +kernel
theorem dX9_pointHolds_67 : decode cX9_pointHolds 67 = .ok (.invokevirtual 357, 3) := by decide +kernel
theorem dX9_pointHolds_70 : decode cX9_pointHolds 70 = .ok (.aload_n 0, 1) := by decide +kernel
theorem dX9_pointHolds_71 : decode cX9_pointHolds 71 = .ok (.getfield 39, 3) := by decide +kernel
theorem dX9_pointHolds_74 : decode cX9_pointHolds 74 = .ok (.iload_n 3, 1) := by decide +kernel
theorem dX9_pointHolds_75 : decode cX9_pointHolds 75 = .ok (.invokevirtual 360, 3) := by decide +kernel
theorem dX9_pointHolds_78 : decode cX9_pointHolds 78 = .ok (.invokevirtual 363, 3) := by decide +kernel
theorem dX9_pointHolds_81 : decode cX9_pointHolds 81 = .ok (.aload_n 0, 1) := by decide +kernel
theorem dX9_pointHolds_82 : decode cX9_pointHolds 82 = .ok (.getfield 74, 3) := by decide +kernel
theorem dX9_pointHolds_85 : decode cX9_pointHolds 85 = .ok (.aload_n 0, 1) := by decide +kernel
theorem dX9_pointHolds_86 : decode cX9_pointHolds 86 = .ok (.getfield 57, 3) := by decide +kernel
theorem dX9_pointHolds_89 : decode cX9_pointHolds 89 = .ok (.iload_n 3, 1) := by decide +kernel
theorem dX9_pointHolds_90 : decode cX9_pointHolds 90 = .ok (.invokevirtual 367, 3) := by decide +kernel
theorem dX9_pointHolds_93 : decode cX9_pointHolds 93 = .ok (.ifCond .ne 5, 3) := by decide +kernel
theorem dX9_pointHolds_96 : decode cX9_pointHolds 96 = .ok (.iconst 0, 1) := by decide +kernel
theorem dX9_pointHolds_97 : decode cX9_pointHolds 97 = .ok (.ireturn, 1) := by decide +kernel
theorem dX9_pointHolds_98 : decode cX9_pointHolds 98 = .ok (.iinc 3 1, 3) := by decide +kernel
theorem dX9_pointHolds_101 : decode cX9_pointHolds 101 = .ok (.goto (-52), 3) := by decide +kernel
theorem dX9_pointHolds_104 : decode cX9_pointHolds 104 = .ok (.iconst 1, 1) := by decide +kernel
theorem dX9_pointHolds_105 : decode cX9_pointHolds 105 = .ok (.ireturn, 1) := by decide +kernel
theorem dX9_holdingPoint_0 : decode cX9_holdingPoint 0 = .ok (.iconst 0, 1) := by decide +kernel
theorem dX9_holdingPoint_1 : decode cX9_holdingPoint 1 = .ok (.istore_n 2, 1) := by decide +kernel
theorem dX9_holdingPoint_2 : decode cX9_holdingPoint 2 = .ok (.aload_n 0, 1) := by decide +kernel
theorem dX9_holdingPoint_3 : decode cX9_holdingPoint 3 = .ok (.getfield 81, 3) := by decide +kernel
theorem dX9_holdingPoint_6 : decode cX9_holdingPoint 6 = .ok (.invokevirtual 239, 3) := by decide +kernel
theorem dX9_holdingPoint_9 : decode cX9_holdingPoint 9 = .ok (.istore_n 3, 1) := by decide +kernel
theorem dX9_holdingPoint_10 : decode cX9_holdingPoint 10 = .ok (.iconst 0, 1) := by decide +kernel
theorem dX9_holdingPoint_11 : decode cX9_holdingPoint 11 = .ok (.istore 4, 2) := by decide +kernel
theorem dX9_holdingPoint_13 : decode cX9_holdingPoint 13 = .ok (.iload 4, 2) := by decide +kernel
theorem dX9_holdingPoint_15 : decode cX9_holdingPoint 15 = .ok (.iload_n 3, 1) := by decide +kernel
theorem dX9_holdingPoint_16 : decode cX9_holdingPoint 16 = .ok (.if_icmp .ge 29, 3) := by decide +kernel
theorem dX9_holdingPoint_19 : decode cX9_holdingPoint 19 = .ok (.aload_n 0, 1) := by decide +kernel
theorem dX9_holdingPoint_20 : decode cX9_holdingPoint 20 = .ok (.iload 4, 2) := by decide +kernel
theorem dX9_holdingPoint_22 : decode cX9_holdingPoint 22 = .ok (.invokevirtual 243, 3) := by decide +kernel
theorem dX9_holdingPoint_25 : decode cX9_holdingPoint 25 = .ok (.ifCond .eq 14, 3) := by decide +kernel
theorem dX9_holdingPoint_28 : decode cX9_holdingPoint 28 = .ok (.iload_n 2, 1) := by decide +kernel
theorem dX9_holdingPoint_29 : decode cX9_holdingPoint 29 = .ok (.iload_n 1, 1) := by decide +kernel
theorem dX9_holdingPoint_30 : decode cX9_holdingPoint 30 = .ok (.if_icmp .ne 6, 3) := by decide +kernel
theorem dX9_holdingPoint_33 : decode cX9_holdingPoint 33 = .ok (.iload 4, 2) := by decide +kernel
theorem dX9_holdingPoint_35 : decode cX9_holdingPoint 35 = .ok (.ireturn, 1) := by decide +kernel
theorem dX9_holdingPoint_36 : decode cX9_holdingPoint 36 = .ok (.iinc 2 1, 3) := by decide +kernel
theorem dX9_holdingPoint_39 : decode cX9_holdingPoint 39 = .ok (.iinc 4 1, 3) := by decide +kernel
theorem dX9_holdingPoint_42 : decode cX9_holdingPoint 42 = .ok (.goto (-29), 3) := by decide +kernel
theorem dX9_holdingPoint_45 : decode cX9_holdingPoint 45 = .ok (.bipush (-4), 2) := by decide +kernel
theorem dX9_holdingPoint_47 : decode cX9_holdingPoint 47 = .ok (.ireturn, 1) := by decide +kernel
theorem dX9_peakAhead_0 : decode cX9_peakAhead 0 = .ok (.aload_n 0, 1) := by decide +kernel
theorem dX9_peakAhead_1 : decode cX9_peakAhead 1 = .ok (.getfield 57, 3) := by decide +kernel
theorem dX9_peakAhead_4 : decode cX9_peakAhead 4 = .ok (.aload_n 0, 1) := by decide +kernel
theorem dX9_peakAhead_5 : decode cX9_peakAhead 5 = .ok (.getfield 53, 3) := by decide +kernel
theorem dX9_peakAhead_8 : decode cX9_peakAhead 8 = .ok (.invokevirtual 330, 3) := by decide +kernel
theorem dX9_peakAhead_11 : decode cX9_peakAhead 11 = .ok (.lconst 0, 1) := by decide +kernel
theorem dX9_peakAhead_12 : decode cX9_peakAhead 12 = .ok (.lstore 4, 2) := by decide +kernel
theorem dX9_peakAhead_14 : decode cX9_peakAhead 14 = .ok (.iconst 0, 1) := by decide +kernel
theorem dX9_peakAhead_15 : decode cX9_peakAhead 15 = .ok (.istore 6, 2) := by decide +kernel
theorem dX9_peakAhead_17 : decode cX9_peakAhead 17 = .ok (.iload 6, 2) := by decide +kernel
theorem dX9_peakAhead_19 : decode cX9_peakAhead 19 = .ok (.iload_n 2, 1) := by decide +kernel
theorem dX9_peakAhead_20 : decode cX9_peakAhead 20 = .ok (.if_icmp .ge 87, 3) := by decide +kernel
theorem dX9_peakAhead_23 : decode cX9_peakAhead 23 = .ok (.aload_n 0, 1) := by decide +kernel
theorem dX9_peakAhead_24 : decode cX9_peakAhead 24 = .ok (.getfield 57, 3) := by decide +kernel
theorem dX9_peakAhead_27 : decode cX9_peakAhead 27 = .ok (.getfield 144, 3) := by decide +kernel
theorem dX9_peakAhead_30 : decode cX9_peakAhead 30 = .ok (.istore 7, 2) := by decide +kernel
theorem dX9_peakAhead_32 : decode cX9_peakAhead 32 = .ok (.iload_n 3, 1) := by decide +kernel
theorem dX9_peakAhead_33 : decode cX9_peakAhead 33 = .ok (.ifCond .ge 15, 3) := by decide +kernel
theorem dX9_peakAhead_36 : decode cX9_peakAhead 36 = .ok (.aload_n 0, 1) := by decide +kernel
theorem dX9_peakAhead_37 : decode cX9_peakAhead 37 = .ok (.getfield 39, 3) := by decide +kernel
theorem dX9_peakAhead_40 : decode cX9_peakAhead 40 = .ok (.iload 7, 2) := by decide +kernel
theorem dX9_peakAhead_42 : decode cX9_peakAhead 42 = .ok (.invokevirtual 357, 3) := by decide +kernel
theorem dX9_peakAhead_45 : decode cX9_peakAhead 45 = .ok (.goto 13, 3) := by decide +kernel
theorem dX9_peakAhead_48 : decode cX9_peakAhead 48 = .ok (.aload_n 0, 1) := by decide +kernel
theorem dX9_peakAhead_49 : decode cX9_peakAhead 49 = .ok (.getfield 88, 3) := by decide +kernel
theorem dX9_peakAhead_52 : decode cX9_peakAhead 52 = .ok (.iload_n 3, 1) := by decide +kernel
theorem dX9_peakAhead_53 : decode cX9_peakAhead 53 = .ok (.iload 6, 2) := by decide +kernel
theorem dX9_peakAhead_55 : decode cX9_peakAhead 55 = .ok (.invokevirtual 371, 3) := by decide +kernel
theorem dX9_peakAhead_58 : decode cX9_peakAhead 58 = .ok (.istore 8, 2) := by decide +kernel
theorem dX9_peakAhead_60 : decode cX9_peakAhead 60 = .ok (.aload_n 0, 1) := by decide +kernel
theorem dX9_peakAhead_61 : decode cX9_peakAhead 61 = .ok (.getfield 57, 3) := by decide +kernel
theorem dX9_peakAhead_64 : decode cX9_peakAhead 64 = .ok (.aload_n 0, 1) := by decide +kernel
theorem dX9_peakAhead_65 : decode cX9_peakAhead 65 = .ok (.getfield 19, 3) := by decide +kernel
theorem dX9_peakAhead_68 : decode cX9_peakAhead 68 = .ok (.iload 8, 2) := by decide +kernel
theorem dX9_peakAhead_70 : decode cX9_peakAhead 70 = .ok (.aload_n 0, 1) := by decide +kernel
theorem dX9_peakAhead_71 : decode cX9_peakAhead 71 = .ok (.getfield 39, 3) := by decide +kernel
theorem dX9_peakAhead_74 : decode cX9_peakAhead 74 = .ok (.iload 7, 2) := by decide +kernel
theorem dX9_peakAhead_76 : decode cX9_peakAhead 76 = .ok (.invokevirtual 360, 3) := by decide +kernel
theorem dX9_peakAhead_79 : decode cX9_peakAhead 79 = .ok (.invokevirtual 363, 3) := by decide +kernel
theorem dX9_peakAhead_82 : decode cX9_peakAhead 82 = .ok (.lload 4, 2) := by decide +kernel
theorem dX9_peakAhead_84 : decode cX9_peakAhead 84 = .ok (.aload_n 0, 1) := by decide +kernel
theorem dX9_peakAhead_85 : decode cX9_peakAhead 85 = .ok (.getfield 74, 3) := by decide +kernel
theorem dX9_peakAhead_88 : decode cX9_peakAhead 88 = .ok (.aload_n 0, 1) := by decide +kernel
theorem dX9_peakAhead_89 : decode cX9_peakAhead 89 = .ok (.getfield 57, 3) := by decide +kernel
theorem dX9_peakAhead_92 : decode cX9_peakAhead 92 = .ok (.iload_n 1, 1) := by decide +kernel
theorem dX9_peakAhead_93 : decode cX9_peakAhead 93 = .ok (.invokevirtual 215, 3) := by decide +kernel
theorem dX9_peakAhead_96 : decode cX9_peakAhead 96 = .ok (.invokestatic 374, 3) := by decide +kernel
theorem dX9_peakAhead_99 : decode cX9_peakAhead 99 = .ok (.lstore 4, 2) := by decide +kernel
theorem dX9_peakAhead_101 : decode cX9_peakAhead 101 = .ok (.iinc 6 1, 3) := by decide +kernel
theorem dX9_peakAhead_104 : decode cX9_peakAhead 104 = .ok (.goto (-87), 3) := by decide +kernel
theorem dX9_peakAhead_107 : decode cX9_peakAhead 107 = .ok (.lload 4, 2) := by decide +kernel
theorem dX9_peakAhead_109 : decode cX9_peakAhead 109 = .ok (.lreturn, 1) := by decide +kernel
theorem dX9_weightAbove_0 : decode cX9_weightAbove 0 = .ok (.iconst 0, 1) := by decide +kernel
theorem dX9_weightAbove_1 : decode cX9_weightAbove 1 = .ok (.istore 5, 2) := by decide +kernel
theorem dX9_weightAbove_3 : decode cX9_weightAbove 3 = .ok (.iconst 0, 1) := by decide +kernel
theorem dX9_weightAbove_4 : decode cX9_weightAbove 4 = .ok (.istore 6, 2) := by decide +kernel
theorem dX9_weightAbove_6 : decode cX9_weightAbove 6 = .ok (.iload 6, 2) := by decide +kernel
theorem dX9_weightAbove_8 : decode cX9_weightAbove 8 = .ok (.iconst 4, 1) := by decide +kernel
theorem dX9_weightAbove_9 : decode cX9_weightAbove 9 = .ok (.if_icmp .ge 46, 3) := by decide +kernel
theorem dX9_weightAbove_12 : decode cX9_weightAbove 12 = .ok (.aload_n 0, 1) := by decide +kernel
theorem dX9_weightAbove_13 : decode cX9_weightAbove 13 = .ok (.getfield 88, 3) := by decide +kernel
theorem dX9_weightAbove_16 : decode cX9_weightAbove 16 = .ok (.getfield 259, 3) := by decide +kernel
theorem dX9_weightAbove_19 : decode cX9_weightAbove 19 = .ok (.iload 6, 2) := by decide +kernel
theorem dX9_weightAbove_21 : decode cX9_weightAbove 21 = .ok (.iaload, 1) := by decide +kernel
theorem dX9_weightAbove_22 : decode cX9_weightAbove 22 = .ok (.istore 7, 2) := by decide +kernel
theorem dX9_weightAbove_24 : decode cX9_weightAbove 24 = .ok (.iload 7, 2) := by decide +kernel
theorem dX9_weightAbove_26 : decode cX9_weightAbove 26 = .ok (.ifCond .le 23, 3) := by decide +kernel
theorem dX9_weightAbove_29 : decode cX9_weightAbove 29 = .ok (.aload_n 0, 1) := by decide +kernel
theorem dX9_weightAbove_30 : decode cX9_weightAbove 30 = .ok (.iload_n 1, 1) := by decide +kernel
theorem dX9_weightAbove_31 : decode cX9_weightAbove 31 = .ok (.iload_n 2, 1) := by decide +kernel
theorem dX9_weightAbove_32 : decode cX9_weightAbove 32 = .ok (.iload 6, 2) := by decide +kernel
theorem dX9_weightAbove_34 : decode cX9_weightAbove 34 = .ok (.invokevirtual 275, 3) := by decide +kernel
theorem dX9_weightAbove_37 : decode cX9_weightAbove 37 = .ok (.lload_n 3, 1) := by decide +kernel
theorem dX9_weightAbove_38 : decode cX9_weightAbove 38 = .ok (.lcmp, 1) := by decide +kernel
theorem dX9_weightAbove_39 : decode cX9_weightAbove 39 = .ok (.ifCond .le 10, 3) := by decide +kernel
theorem dX9_weightAbove_42 : decode cX9_weightAbove 42 = .ok (.iload 5, 2) := by decide +kernel
theorem dX9_weightAbove_44 : decode cX9_weightAbove 44 = .ok (.iload 7, 2) := by decide +kernel
theorem dX9_weightAbove_46 : decode cX9_weightAbove 46 = .ok (.iadd, 1) := by decide +kernel
theorem dX9_weightAbove_47 : decode cX9_weightAbove 47 = .ok (.istore 5, 2) := by decide +kernel
theorem dX9_weightAbove_49 : decode cX9_weightAbove 49 = .ok (.iinc 6 1, 3) := by decide +kernel
theorem dX9_weightAbove_52 : decode cX9_weightAbove 52 = .ok (.goto (-46), 3) := by decide +kernel
theorem dX9_weightAbove_55 : decode cX9_weightAbove 55 = .ok (.iload 5, 2) := by decide +kernel
theorem dX9_weightAbove_57 : decode cX9_weightAbove 57 = .ok (.ireturn, 1) := by decide +kernel
theorem dX9_changedReading_0 : decode cX9_changedReading 0 = .ok (.iload_n 1, 1) := by decide +kernel
theorem dX9_changedReading_1 : decode cX9_changedReading 1 = .ok (.iconst 3, 1) := by decide +kernel
theorem dX9_changedReading_2 : decode cX9_changedReading 2 = .ok (.if_icmp .lt 17, 3) := by decide +kernel
theorem dX9_changedReading_5 : decode cX9_changedReading 5 = .ok (.aload_n 0, 1) := by decide +kernel
theorem dX9_changedReading_6 : decode cX9_changedReading 6 = .ok (.getfield 33, 3) := by decide +kernel
theorem dX9_changedReading_9 : decode cX9_changedReading 9 = .ok (.ifCond .eq 10, 3) := by decide +kernel
theorem dX9_changedReading_12 : decode cX9_changedReading 12 = .ok (.aload_n 0, 1) := by decide +kernel
theorem dX9_changedReading_13 : decode cX9_changedReading 13 = .ok (.getfield 26, 3) := by decide +kernel
theorem dX9_changedReading_16 : decode cX9_changedReading 16 = .ok (.goto 7, 3) := by decide +kernel
theorem dX9_changedReading_19 : decode cX9_changedReading 19 = .ok (.aload_n 0, 1) := by decide +kernel
theorem dX9_changedReading_20 : decode cX9_changedReading 20 = .ok (.getfield 19, 3) := by decide +kernel
theorem dX9_changedReading_23 : decode cX9_changedReading 23 = .ok (.astore 4, 2) := by decide +kernel
theorem dX9_changedReading_25 : decode cX9_changedReading 25 = .ok (.iload_n 1, 1) := by decide +kernel
theorem dX9_changedReading_26 : decode cX9_changedReading 26 = .ok (.iconst 1, 1) := by decide +kernel
theorem dX9_changedReading_27 : decode cX9_changedReading 27 = .ok (.if_icmp .lt 10, 3) := by decide +kernel
theorem dX9_changedReading_30 : decode cX9_changedReading 30 = .ok (.aload_n 0, 1) := by decide +kernel
theorem dX9_changedReading_31 : decode cX9_changedReading 31 = .ok (.getfield 43, 3) := by decide +kernel
theorem dX9_changedReading_34 : decode cX9_changedReading 34 = .ok (.goto 7, 3) := by decide +kernel
theorem dX9_changedReading_37 : decode cX9_changedReading 37 = .ok (.aload_n 0, 1) := by decide +kernel
theorem dX9_changedReading_38 : decode cX9_changedReading 38 = .ok (.getfield 39, 3) := by decide +kernel
theorem dX9_changedReading_41 : decode cX9_changedReading 41 = .ok (.astore 5, 2) := by decide +kernel
theorem dX9_changedReading_43 : decode cX9_changedReading 43 = .ok (.aload_n 0, 1) := by decide +kernel
theorem dX9_changedReading_44 : decode cX9_changedReading 44 = .ok (.getfield 57, 3) := by decide +kernel
theorem dX9_changedReading_47 : decode cX9_changedReading 47 = .ok (.aload 4, 2) := by decide +kernel
theorem dX9_changedReading_49 : decode cX9_changedReading 49 = .ok (.invokevirtual 147, 3) := by decide +kernel
theorem dX9_changedReading_52 : decode cX9_changedReading 52 = .ok (.iload_n 1, 1) := by decide +kernel
theorem dX9_changedReading_53 : decode cX9_changedReading 53 = .ok (.iconst 2, 1) := by decide +kernel
theorem dX9_changedReading_54 : decode cX9_changedReading 54 = .ok (.if_icmp .lt 14, 3) := by decide +kernel
theorem dX9_changedReading_57 : decode cX9_changedReading 57 = .ok (.aload_n 0, 1) := by decide +kernel
theorem dX9_changedReading_58 : decode cX9_changedReading 58 = .ok (.getfield 57, 3) := by decide +kernel
theorem dX9_changedReading_61 : decode cX9_changedReading 61 = .ok (.aload_n 0, 1) := by decide +kernel
theorem dX9_changedReading_62 : decode cX9_changedReading 62 = .ok (.getfield 46, 3) := by decide +kernel
theorem dX9_changedReading_65 : decode cX9_changedReading 65 = .ok (.invokevirtual 380, 3) := by decide +kernel
theorem dX9_changedReading_68 : decode cX9_changedReading 68 = .ok (.iconst 0, 1) := by decide +kernel
theorem dX9_changedReading_69 : decode cX9_changedReading 69 = .ok (.istore 6, 2) := by decide +kernel
theorem dX9_changedReading_71 : decode cX9_changedReading 71 = .ok (.iload 6, 2) := by decide +kernel
theorem dX9_changedReading_73 : decode cX9_changedReading 73 = .ok (.iload_n 3, 1) := by decide +kernel
theorem dX9_changedReading_74 : decode cX9_changedReading 74 = .ok (.if_icmp .gt 20, 3) := by decide +kernel
theorem dX9_changedReading_77 : decode cX9_changedReading 77 = .ok (.aload_n 0, 1) := by decide +kernel
theorem dX9_changedReading_78 : decode cX9_changedReading 78 = .ok (.getfield 57, 3) := by decide +kernel
theorem dX9_changedReading_81 : decode cX9_changedReading 81 = .ok (.aload 4, 2) := by decide +kernel
theorem dX9_changedReading_83 : decode cX9_changedReading 83 = .ok (.aload 5, 2) := by decide +kernel
theorem dX9_changedReading_85 : decode cX9_changedReading 85 = .ok (.invokevirtual 151, 3) := by decide +kernel
theorem dX9_changedReading_88 : decode cX9_changedReading 88 = .ok (.iinc 6 1, 3) := by decide +kernel
theorem dX9_changedReading_91 : decode cX9_changedReading 91 = .ok (.goto (-20), 3) := by decide +kernel
theorem dX9_changedReading_94 : decode cX9_changedReading 94 = .ok (.aload_n 0, 1) := by decide +kernel
theorem dX9_changedReading_95 : decode cX9_changedReading 95 = .ok (.getfield 74, 3) := by decide +kernel
theorem dX9_changedReading_98 : decode cX9_changedReading 98 = .ok (.aload_n 0, 1) := by decide +kernel
theorem dX9_changedReading_99 : decode cX9_changedReading 99 = .ok (.getfield 57, 3) := by decide +kernel
theorem dX9_changedReading_102 : decode cX9_changedReading 102 = .ok (.iload_n 2, 1) := by decide +kernel
theorem dX9_changedReading_103 : decode cX9_changedReading 103 = .ok (.invokevirtual 215, 3) := by decide +kernel
theorem dX9_changedReading_106 : decode cX9_changedReading 106 = .ok (.lreturn, 1) := by decide +kernel
def uX9_lacksItem : List Cond := .code yX9_lacksItem cX9_lacksItem 2 (some .boolean) :: ([.fieldLink RX9 29 "RiverModel" "isBuilt" "Z", .fieldLink RX9 19 "RiverModel" "model" "LRiverModel$Model;", .fieldLink RX9 124 "RiverModel$Model" "many" "I"] ++ wsX90 ++ wsX40)
set_option maxHeartbeats 4000000 in
set_option maxRecDepth 100000 in
theorem s_X9_lacksItem (l : Launch) (D : va_G) (t : Nat → Nat) (cI cL cC : ClassId) (gC : Int32) (gE : Int32) (G : Nat) (gW : Nat → Int32) (gA : Nat → Int32) (a0 : Nat) (a1 : Int32) (k_a0 : t a0 = 1) : tM l yX9_lacksItem uX9_lacksItem 0 0 D (gF cI cL cC gC gE G gW gA) (gF cI cL cC gC gE G gW gA) t cI cL cC [.ref a0, .int a1] wr0 (pI (fun r => r = 0 ∨ r = 1)) := by
  refine tM.ofW (cc := cX9_lacksItem) (maxL := 2) (ret := (some .boolean)) (by decide) rfl (Nat.le_of_ble_eq_true rfl) ?_
  intro p e s m below meth c hx hb hr hml hown hts hlk H locs hG hK hE hS ls hl
  have hl : lv_has ls 2 [(0, .ref a0), (1, .int a1)] := hl
  have in9 : ∀ w ∈ wsX90, w ∈ uX9_lacksItem := fun w h => List.mem_cons_of_mem _ (List.mem_append_left _ (List.mem_append_right _ h))
  have in4 : ∀ w ∈ wsX40, w ∈ uX9_lacksItem := fun w h => List.mem_cons_of_mem _ (List.mem_append_right _ h)
  refine lv_aload_n hx hb dX9_lacksItem_0 rfl (lv_at hl 0 rfl) ?_
  obtain ⟨r_1, r_3, r_5, r_7, v_9, v_10, r_11, r_13, r_15, r_17, r_19, r_21, r_23, v_25, r_27, r_29, r_31, r_33, at_35, h_2, h_4, h_6, h_8, h_12, h_14, h_16, h_18, h_20, h_22, h_24, h_26, h_28, h_30, h_32, h_34⟩ := gF_o1 hG k_a0
  refine va_get (D := D) (ci := 8) (v := .int v_9) (C := RX9) (T := TX9) (N := 18) hx hb hts in9 hown hK (va_one at_35) 0 rfl rfl 4 (by decide) (hts (.fieldLink RX9 29 "RiverModel" "isBuilt" "Z") (List.mem_of_getElem? (i := 1) rfl)) (fun _ h9 => h9) rfl dX9_lacksItem_1 ?_
  refine lv_if_eq (tgt := 18) hx hb dX9_lacksItem_4 (by decide) (fun c_36 => ?_) (fun c_36 => ?_)
  · skip
    have c_36 : v_9.toInt = 0 := q_eq c_36
    refine lv_iconst (v := 1) hx hb dX9_lacksItem_18 (by decide) ?_
    refine lv_goto (tgt := 23) hx hb dX9_lacksItem_19 (by decide) ?_
    exact ty_zret hx hb hr hlk rfl hG hS (by decide) dX9_lacksItem_23
  · skip
    have c_36 : v_9.toInt ≠ 0 := q_ne c_36
    refine lv_iload_n hx hb dX9_lacksItem_7 rfl (lv_at hl 1 rfl) ?_
    refine lv_pc (pc2 := 8) rfl ?_
    refine lv_aload_n hx hb dX9_lacksItem_8 rfl (lv_at hl 0 rfl) ?_
    refine va_get (D := D) (ci := 8) (v := .ref r_3) (C := RX9) (T := TX9) (N := 18) hx hb hts in9 hown hK (va_one at_35) 0 rfl rfl 1 (by decide) (hts (.fieldLink RX9 19 "RiverModel" "model" "LRiverModel$Model;") (List.mem_of_getElem? (i := 2) rfl)) (fun _ h9 => h9) rfl dX9_lacksItem_9 ?_
    obtain ⟨r_37, r_39, r_41, v_43, v_44, v_45, at_47, h_38, h_40, h_42, h_46⟩ := gF_o3 hG h_4
    refine va_get (D := D) (ci := 3) (v := .int v_43) (C := RX4) (T := TX4) (N := 6) hx hb hts in4 hown hK (va_one at_47) 0 rfl rfl 3 (by decide) (hts (.fieldLink RX9 124 "RiverModel$Model" "many" "I") (List.mem_of_getElem? (i := 3) rfl)) (fun _ h9 => h9) rfl dX9_lacksItem_12 ?_
    refine lv_icmp_lt (tgt := 22) hx hb dX9_lacksItem_15 (by decide) (fun c_48 => ?_) (fun c_48 => ?_)
    · skip
      have c_48 : a1.toInt < v_43.toInt := q_lt c_48
      refine lv_iconst (v := 0) hx hb dX9_lacksItem_22 (by decide) ?_
      exact ty_zret hx hb hr hlk rfl hG hS (by decide) dX9_lacksItem_23
    · skip
      have c_48 : v_43.toInt ≤ a1.toInt := q_nlt c_48
      refine lv_iconst (v := 1) hx hb dX9_lacksItem_18 (by decide) ?_
      refine lv_goto (tgt := 23) hx hb dX9_lacksItem_19 (by decide) ?_
      refine lv_pc (pc2 := 23) rfl ?_
      exact ty_zret hx hb hr hlk rfl hG hS (by decide) dX9_lacksItem_23

def uX9_lacksStore : List Cond := .code yX9_lacksStore cX9_lacksStore 2 (some .boolean) :: ([.fieldLink RX9 29 "RiverModel" "isBuilt" "Z", .fieldLink RX9 19 "RiverModel" "model" "LRiverModel$Model;", .methodLink RX9 343 yX4_hasStore, .instanceMethod yX4_hasStore, .selects RX4 yX4_hasStore yX4_hasStore, .initialized RX4, .code yX4_hasStore cX4_hasStore 2 (some .boolean), .fieldLink RX4 15 "RiverModel$Model" "storeItems" "[I"] ++ wsX90 ++ wsX40)
set_option maxRecDepth 20000 in
theorem gu_X9_lacksStore_X4_hasStore_343 : GoodIn uX9_lacksStore (wsV RX9 343 RX4 yX4_hasStore uX4_hasStore) := goodIn_r _ [3, 4, 5, 6, 7, 8, 27, 28, 29, 30, 31, 32] rfl (by decide +kernel)
set_option maxHeartbeats 4000000 in
set_option maxRecDepth 100000 in
theorem s_X9_lacksStore (l : Launch) (D : va_G) (t : Nat → Nat) (cI cL cC : ClassId) (gC : Int32) (gE : Int32) (G : Nat) (gW : Nat → Int32) (gA : Nat → Int32) (a0 : Nat) (a1 : Int32) (k_a0 : t a0 = 1) : tM l yX9_lacksStore uX9_lacksStore 1 21 D (gF cI cL cC gC gE G gW gA) (gF cI cL cC gC gE G gW gA) t cI cL cC [.ref a0, .int a1] wr0 (pI (fun r => r = 0 ∨ r = 1)) := by
  refine tM.ofW (cc := cX9_lacksStore) (maxL := 2) (ret := (some .boolean)) (by decide) rfl (Nat.le_of_ble_eq_true rfl) ?_
  intro p e s m below meth c hx hb hr hml hown hts hlk H locs hG hK hE hS ls hl
  have hl : lv_has ls 2 [(0, .ref a0), (1, .int a1)] := hl
  have in9 : ∀ w ∈ wsX90, w ∈ uX9_lacksStore := fun w h => List.mem_cons_of_mem _ (List.mem_append_left _ (List.mem_append_right _ h))
  refine lv_aload_n hx hb dX9_lacksStore_0 rfl (lv_at hl 0 rfl) ?_
  obtain ⟨r_1, r_3, r_5, r_7, v_9, v_10, r_11, r_13, r_15, r_17, r_19, r_21, r_23, v_25, r_27, r_29, r_31, r_33, at_35, h_2, h_4, h_6, h_8, h_12, h_14, h_16, h_18, h_20, h_22, h_24, h_26, h_28, h_30, h_32, h_34⟩ := gF_o1 hG k_a0
  refine va_get (D := D) (ci := 8) (v := .int v_9) (C := RX9) (T := TX9) (N := 18) hx hb hts in9 hown hK (va_one at_35) 0 rfl rfl 4 (by decide) (hts (.fieldLink RX9 29 "RiverModel" "isBuilt" "Z") (List.mem_of_getElem? (i := 1) rfl)) (fun _ h9 => h9) rfl dX9_lacksStore_1 ?_
  refine lv_if_eq (tgt := 18) hx hb dX9_lacksStore_4 (by decide) (fun c_36 => ?_) (fun c_36 => ?_)
  · skip
    have c_36 : v_9.toInt = 0 := q_eq c_36
    refine lv_iconst (v := 1) hx hb dX9_lacksStore_18 (by decide) ?_
    refine lv_goto (tgt := 23) hx hb dX9_lacksStore_19 (by decide) ?_
    exact ty_zret hx hb hr hlk rfl hG hS (by decide) dX9_lacksStore_23
  · skip
    have c_36 : v_9.toInt ≠ 0 := q_ne c_36
    refine lv_aload_n hx hb dX9_lacksStore_7 rfl (lv_at hl 0 rfl) ?_
    refine lv_pc (pc2 := 8) rfl ?_
    refine va_get (D := D) (ci := 8) (v := .ref r_3) (C := RX9) (T := TX9) (N := 18) hx hb hts in9 hown hK (va_one at_35) 0 rfl rfl 1 (by decide) (hts (.fieldLink RX9 19 "RiverModel" "model" "LRiverModel$Model;") (List.mem_of_getElem? (i := 2) rfl)) (fun _ h9 => h9) rfl dX9_lacksStore_8 ?_
    refine lv_iload_n hx hb dX9_lacksStore_11 rfl (lv_at hl 1 rfl) ?_
    obtain ⟨r_37, r_39, r_41, v_43, v_44, v_45, at_47, h_38, h_40, h_42, h_46⟩ := gF_o3 hG h_4
    refine ty_calli ((W.runV (As := [.int a1]) (rest := []) ⟨hx, hb, hml, hown, hts⟩ (s_X4_hasStore l D t cI cL cC gC gE G gW gA r_3 a1 h_4) (cwV 1 hts gu_X9_lacksStore_X4_hasStore_343 rfl rfl rfl (by decide +kernel) ⟨Nat.le_of_ble_eq_true rfl, Nat.le_of_ble_eq_true rfl⟩) (tP_V hG hE at_47 rfl) rfl rfl hl.1 rfl (lv_room (Nat.le_of_ble_eq_true rfl)) dX9_lacksStore_12 ⟨Nat.le_of_ble_eq_true rfl, Nat.le_of_ble_eq_true rfl⟩)) hS (fun _ h => h) (fun r_48 H locs hp_49 hG hS o_50 => ?_)
    have at_35 := va_at.keptC at_35 o_50 k_a0 rfl
    have at_47 := va_at.keptC at_47 o_50 h_4 rfl
    rcases hp_49 with ⟨rfl, hc_121, hc_122⟩ | ⟨rfl, _⟩
    · skip
      refine lv_if_ne (tgt := 22) hx hb dX9_lacksStore_15 (by decide) (fun _ => ?_) (fun q => absurd q (by decide))
      refine lv_iconst (v := 0) hx hb dX9_lacksStore_22 (by decide) ?_
      exact ty_zret hx hb hr hlk rfl hG hS (by decide) dX9_lacksStore_23
    · skip
      refine lv_if_ne (tgt := 22) hx hb dX9_lacksStore_15 (by decide) (fun q => absurd rfl q) (fun _ => ?_)
      refine lv_iconst (v := 1) hx hb dX9_lacksStore_18 (by decide) ?_
      refine lv_pc (pc2 := 19) rfl ?_
      refine lv_goto (tgt := 23) hx hb dX9_lacksStore_19 (by decide) ?_
      exact ty_zret hx hb hr hlk rfl hG hS (by decide) dX9_lacksStore_23

def uX9_lacksGate : List Cond := .code yX9_lacksGate cX9_lacksGate 2 (some .boolean) :: ([.fieldLink RX9 29 "RiverModel" "isBuilt" "Z", .fieldLink RX9 19 "RiverModel" "model" "LRiverModel$Model;", .fieldLink RX9 333 "RiverModel$Model" "gates" "I"] ++ wsX90 ++ wsX40)
set_option maxHeartbeats 4000000 in
set_option maxRecDepth 100000 in
theorem s_X9_lacksGate (l : Launch) (D : va_G) (t : Nat → Nat) (cI cL cC : ClassId) (gC : Int32) (gE : Int32) (G : Nat) (gW : Nat → Int32) (gA : Nat → Int32) (a0 : Nat) (a1 : Int32) (k_a0 : t a0 = 1) : tM l yX9_lacksGate uX9_lacksGate 0 0 D (gF cI cL cC gC gE G gW gA) (gF cI cL cC gC gE G gW gA) t cI cL cC [.ref a0, .int a1] wr0 (pI (fun r => r = 0 ∨ r = 1)) := by
  refine tM.ofW (cc := cX9_lacksGate) (maxL := 2) (ret := (some .boolean)) (by decide) rfl (Nat.le_of_ble_eq_true rfl) ?_
  intro p e s m below meth c hx hb hr hml hown hts hlk H locs hG hK hE hS ls hl
  have hl : lv_has ls 2 [(0, .ref a0), (1, .int a1)] := hl
  have in9 : ∀ w ∈ wsX90, w ∈ uX9_lacksGate := fun w h => List.mem_cons_of_mem _ (List.mem_append_left _ (List.mem_append_right _ h))
  have in4 : ∀ w ∈ wsX40, w ∈ uX9_lacksGate := fun w h => List.mem_cons_of_mem _ (List.mem_append_right _ h)
  refine lv_aload_n hx hb dX9_lacksGate_0 rfl (lv_at hl 0 rfl) ?_
  obtain ⟨r_1, r_3, r_5, r_7, v_9, v_10, r_11, r_13, r_15, r_17, r_19, r_21, r_23, v_25, r_27, r_29, r_31, r_33, at_35, h_2, h_4, h_6, h_8, h_12, h_14, h_16, h_18, h_20, h_22, h_24, h_26, h_28, h_30, h_32, h_34⟩ := gF_o1 hG k_a0
  refine va_get (D := D) (ci := 8) (v := .int v_9) (C := RX9) (T := TX9) (N := 18) hx hb hts in9 hown hK (va_one at_35) 0 rfl rfl 4 (by decide) (hts (.fieldLink RX9 29 "RiverModel" "isBuilt" "Z") (List.mem_of_getElem? (i := 1) rfl)) (fun _ h9 => h9) rfl dX9_lacksGate_1 ?_
  refine lv_if_eq (tgt := 18) hx hb dX9_lacksGate_4 (by decide) (fun c_36 => ?_) (fun c_36 => ?_)
  · skip
    have c_36 : v_9.toInt = 0 := q_eq c_36
    refine lv_iconst (v := 1) hx hb dX9_lacksGate_18 (by decide) ?_
    refine lv_goto (tgt := 23) hx hb dX9_lacksGate_19 (by decide) ?_
    exact ty_zret hx hb hr hlk rfl hG hS (by decide) dX9_lacksGate_23
  · skip
    have c_36 : v_9.toInt ≠ 0 := q_ne c_36
    refine lv_iload_n hx hb dX9_lacksGate_7 rfl (lv_at hl 1 rfl) ?_
    refine lv_pc (pc2 := 8) rfl ?_
    refine lv_aload_n hx hb dX9_lacksGate_8 rfl (lv_at hl 0 rfl) ?_
    refine va_get (D := D) (ci := 8) (v := .ref r_3) (C := RX9) (T := TX9) (N := 18) hx hb hts in9 hown hK (va_one at_35) 0 rfl rfl 1 (by decide) (hts (.fieldLink RX9 19 "RiverModel" "model" "LRiverModel$Model;") (List.mem_of_getElem? (i := 2) rfl)) (fun _ h9 => h9) rfl dX9_lacksGate_9 ?_
    obtain ⟨r_37, r_39, r_41, v_43, v_44, v_45, at_47, h_38, h_40, h_42, h_46⟩ := gF_o3 hG h_4
    refine va_get (D := D) (ci := 3) (v := .int v_45) (C := RX4) (T := TX4) (N := 6) hx hb hts in4 hown hK (va_one at_47) 0 rfl rfl 5 (by decide) (hts (.fieldLink RX9 333 "RiverModel$Model" "gates" "I") (List.mem_of_getElem? (i := 3) rfl)) (fun _ h9 => h9) rfl dX9_lacksGate_12 ?_
    refine lv_icmp_lt (tgt := 22) hx hb dX9_lacksGate_15 (by decide) (fun c_48 => ?_) (fun c_48 => ?_)
    · skip
      have c_48 : a1.toInt < v_45.toInt := q_lt c_48
      refine lv_iconst (v := 0) hx hb dX9_lacksGate_22 (by decide) ?_
      exact ty_zret hx hb hr hlk rfl hG hS (by decide) dX9_lacksGate_23
    · skip
      have c_48 : v_45.toInt ≤ a1.toInt := q_nlt c_48
      refine lv_iconst (v := 1) hx hb dX9_lacksGate_18 (by decide) ?_
      refine lv_goto (tgt := 23) hx hb dX9_lacksGate_19 (by decide) ?_
      refine lv_pc (pc2 := 23) rfl ?_
      exact ty_zret hx hb hr hlk rfl hG hS (by decide) dX9_lacksGate_23

def uX9_lacksGauge : List Cond := .code yX9_lacksGauge cX9_lacksGauge 2 (some .boolean) :: ([.fieldLink RX9 29 "RiverModel" "isBuilt" "Z", .fieldLink RX9 74 "RiverModel" "gauges" "LRiverModel$Gauges;", .methodLink RX9 346 yX1_isSet, .instanceMethod yX1_isSet, .selects RX1 yX1_isSet yX1_isSet, .initialized RX1, .code yX1_isSet cX1_isSet 2 (some .boolean), .fieldLink RX1 9 "RiverModel$Gauges" "whats" "[I"] ++ wsX90 ++ wsX10)
set_option maxRecDepth 20000 in
theorem gu_X9_lacksGauge_X1_isSet_346 : GoodIn uX9_lacksGauge (wsV RX9 346 RX1 yX1_isSet uX1_isSet) := goodIn_r _ [3, 4, 5, 6, 7, 8, 27, 28, 29, 30] rfl (by decide +kernel)
set_option maxHeartbeats 4000000 in
set_option maxRecDepth 100000 in
theorem s_X9_lacksGauge (l : Launch) (D : va_G) (t : Nat → Nat) (cI cL cC : ClassId) (gC : Int32) (gE : Int32) (G : Nat) (gW : Nat → Int32) (gA : Nat → Int32) (a0 : Nat) (a1 : Int32) (k_a0 : t a0 = 1) : tM l yX9_lacksGauge uX9_lacksGauge 1 21 D (gF cI cL cC gC gE G gW gA) (gF cI cL cC gC gE G gW gA) t cI cL cC [.ref a0, .int a1] wr0 (pI (fun r => r = 0 ∨ r = 1)) := by
  refine tM.ofW (cc := cX9_lacksGauge) (maxL := 2) (ret := (some .boolean)) (by decide) rfl (Nat.le_of_ble_eq_true rfl) ?_
  intro p e s m below meth c hx hb hr hml hown hts hlk H locs hG hK hE hS ls hl
  have hl : lv_has ls 2 [(0, .ref a0), (1, .int a1)] := hl
  have in9 : ∀ w ∈ wsX90, w ∈ uX9_lacksGauge := fun w h => List.mem_cons_of_mem _ (List.mem_append_left _ (List.mem_append_right _ h))
  refine lv_aload_n hx hb dX9_lacksGauge_0 rfl (lv_at hl 0 rfl) ?_
  obtain ⟨r_1, r_3, r_5, r_7, v_9, v_10, r_11, r_13, r_15, r_17, r_19, r_21, r_23, v_25, r_27, r_29, r_31, r_33, at_35, h_2, h_4, h_6, h_8, h_12, h_14, h_16, h_18, h_20, h_22, h_24, h_26, h_28, h_30, h_32, h_34⟩ := gF_o1 hG k_a0
  refine va_get (D := D) (ci := 8) (v := .int v_9) (C := RX9) (T := TX9) (N := 18) hx hb hts in9 hown hK (va_one at_35) 0 rfl rfl 4 (by decide) (hts (.fieldLink RX9 29 "RiverModel" "isBuilt" "Z") (List.mem_of_getElem? (i := 1) rfl)) (fun _ h9 => h9) rfl dX9_lacksGauge_1 ?_
  refine lv_if_eq (tgt := 18) hx hb dX9_lacksGauge_4 (by decide) (fun c_36 => ?_) (fun c_36 => ?_)
  · skip
    have c_36 : v_9.toInt = 0 := q_eq c_36
    refine lv_iconst (v := 1) hx hb dX9_lacksGauge_18 (by decide) ?_
    refine lv_goto (tgt := 23) hx hb dX9_lacksGauge_19 (by decide) ?_
    exact ty_zret hx hb hr hlk rfl hG hS (by decide) dX9_lacksGauge_23
  · skip
    have c_36 : v_9.toInt ≠ 0 := q_ne c_36
    refine lv_aload_n hx hb dX9_lacksGauge_7 rfl (lv_at hl 0 rfl) ?_
    refine lv_pc (pc2 := 8) rfl ?_
    refine va_get (D := D) (ci := 8) (v := .ref r_27) (C := RX9) (T := TX9) (N := 18) hx hb hts in9 hown hK (va_one at_35) 0 rfl rfl 14 (by decide) (hts (.fieldLink RX9 74 "RiverModel" "gauges" "LRiverModel$Gauges;") (List.mem_of_getElem? (i := 2) rfl)) (fun _ h9 => h9) rfl dX9_lacksGauge_8 ?_
    refine lv_iload_n hx hb dX9_lacksGauge_11 rfl (lv_at hl 1 rfl) ?_
    obtain ⟨r_37, r_39, r_41, at_43, h_38, h_40, h_42⟩ := gF_o6 hG h_28
    refine ty_calli ((W.runV (As := [.int a1]) (rest := []) ⟨hx, hb, hml, hown, hts⟩ (s_X1_isSet l D t cI cL cC gC gE G gW gA r_27 a1 h_28) (cwV 1 hts gu_X9_lacksGauge_X1_isSet_346 rfl rfl rfl (by decide +kernel) ⟨Nat.le_of_ble_eq_true rfl, Nat.le_of_ble_eq_true rfl⟩) (tP_V hG hE at_43 rfl) rfl rfl hl.1 rfl (lv_room (Nat.le_of_ble_eq_true rfl)) dX9_lacksGauge_12 ⟨Nat.le_of_ble_eq_true rfl, Nat.le_of_ble_eq_true rfl⟩)) hS (fun _ h => h) (fun r_44 H locs hp_45 hG hS o_46 => ?_)
    have at_35 := va_at.keptC at_35 o_46 k_a0 rfl
    have at_43 := va_at.keptC at_43 o_46 h_28 rfl
    rcases hp_45 with ⟨rfl, hc_123, hc_124⟩ | ⟨rfl, _⟩
    · skip
      refine lv_if_ne (tgt := 22) hx hb dX9_lacksGauge_15 (by decide) (fun _ => ?_) (fun q => absurd q (by decide))
      refine lv_iconst (v := 0) hx hb dX9_lacksGauge_22 (by decide) ?_
      exact ty_zret hx hb hr hlk rfl hG hS (by decide) dX9_lacksGauge_23
    · skip
      refine lv_if_ne (tgt := 22) hx hb dX9_lacksGauge_15 (by decide) (fun q => absurd rfl q) (fun _ => ?_)
      refine lv_iconst (v := 1) hx hb dX9_lacksGauge_18 (by decide) ?_
      refine lv_pc (pc2 := 19) rfl ?_
      refine lv_goto (tgt := 23) hx hb dX9_lacksGauge_19 (by decide) ?_
      exact ty_zret hx hb hr hlk rfl hG hS (by decide) dX9_lacksGauge_23

def uX9_isBeyond : List Cond := .code yX9_isBeyond cX9_isBeyond 2 (some .boolean) :: ([.fieldLink RX9 53 "RiverModel" "now" "LRiverModel$Course;", .fieldLink RX9 144 "RiverModel$Course" "hours" "I"] ++ wsX90 ++ wsX00)
set_option maxHeartbeats 4000000 in
set_option maxRecDepth 100000 in
theorem s_X9_isBeyond (l : Launch) (D : va_G) (t : Nat → Nat) (cI cL cC : ClassId) (gC : Int32) (gE : Int32) (G : Nat) (gW : Nat → Int32) (gA : Nat → Int32) (a0 : Nat) (a1 : Int32) (k_a0 : t a0 = 1) : tM l yX9_isBeyond uX9_isBeyond 0 0 D (gF cI cL cC gC gE G gW gA) (gF cI cL cC gC gE G gW gA) t cI cL cC [.ref a0, .int a1] wr0 (pI (fun r => r = 0 ∨ r = 1)) := by
  refine tM.ofW (cc := cX9_isBeyond) (maxL := 2) (ret := (some .boolean)) (by decide) rfl (Nat.le_of_ble_eq_true rfl) ?_
  intro p e s m below meth c hx hb hr hml hown hts hlk H locs hG hK hE hS ls hl
  have hl : lv_has ls 2 [(0, .ref a0), (1, .int a1)] := hl
  have in9 : ∀ w ∈ wsX90, w ∈ uX9_isBeyond := fun w h => List.mem_cons_of_mem _ (List.mem_append_left _ (List.mem_append_right _ h))
  have in0 : ∀ w ∈ wsX00, w ∈ uX9_isBeyond := fun w h => List.mem_cons_of_mem _ (List.mem_append_right _ h)
  refine lv_aload_n hx hb dX9_isBeyond_0 rfl (lv_at hl 0 rfl) ?_
  obtain ⟨r_1, r_3, r_5, r_7, v_9, v_10, r_11, r_13, r_15, r_17, r_19, r_21, r_23, v_25, r_27, r_29, r_31, r_33, at_35, h_2, h_4, h_6, h_8, h_12, h_14, h_16, h_18, h_20, h_22, h_24, h_26, h_28, h_30, h_32, h_34⟩ := gF_o1 hG k_a0
  refine va_get (D := D) (ci := 8) (v := .ref r_17) (C := RX9) (T := TX9) (N := 18) hx hb hts in9 hown hK (va_one at_35) 0 rfl rfl 9 (by decide) (hts (.fieldLink RX9 53 "RiverModel" "now" "LRiverModel$Course;") (List.mem_of_getElem? (i := 1) rfl)) (fun _ h9 => h9) rfl dX9_isBeyond_1 ?_
  obtain ⟨r_36, r_38, r_40, r_42, v_44, v_45, v_46, v_47, at_49, h_37, h_39, h_41, h_43, h_48⟩ := gF_o5 hG h_18
  refine va_get (D := D) (ci := 0) (v := .int v_47) (C := RX0) (T := TX0) (N := 8) hx hb hts in0 hown hK (va_one at_49) 0 rfl rfl 7 (by decide) (hts (.fieldLink RX9 144 "RiverModel$Course" "hours" "I") (List.mem_of_getElem? (i := 2) rfl)) (fun _ h9 => h9) rfl dX9_isBeyond_4 ?_
  refine lv_iload_n hx hb dX9_isBeyond_7 rfl (lv_at hl 1 rfl) ?_
  refine lv_iadd hx hb dX9_isBeyond_8 ?_
  refine lv_topi (fun x_50 e_51 => ?_)
  refine lv_bipush (v := 96) hx hb dX9_isBeyond_9 (by decide) ?_
  refine lv_icmp_le (tgt := 18) hx hb dX9_isBeyond_11 (by decide) (fun c_52 => ?_) (fun c_52 => ?_)
  · skip
    have c_52 : x_50.toInt ≤ 96 := q_le c_52
    refine lv_pc (pc2 := 18) rfl ?_
    refine lv_iconst (v := 0) hx hb dX9_isBeyond_18 (by decide) ?_
    exact ty_zret hx hb hr hlk rfl hG hS (by decide) dX9_isBeyond_19
  · skip
    have c_52 : 96 < x_50.toInt := q_nle c_52
    refine lv_iconst (v := 1) hx hb dX9_isBeyond_14 (by decide) ?_
    refine lv_goto (tgt := 19) hx hb dX9_isBeyond_15 (by decide) ?_
    exact ty_zret hx hb hr hlk rfl hG hS (by decide) dX9_isBeyond_19

def uX9_draftBecomesModel : List Cond := .code yX9_draftBecomesModel cX9_draftBecomesModel 3 none :: ([.fieldLink RX9 19 "RiverModel" "model" "LRiverModel$Model;", .fieldLink RX9 23 "RiverModel" "draft" "LRiverModel$Model;", .fieldLink RX9 29 "RiverModel" "isBuilt" "Z", .fieldLink RX9 33 "RiverModel" "isOtherLaid" "Z", .fieldLink RX9 67 "RiverModel" "keptMany" "I", .fieldLink RX9 53 "RiverModel" "now" "LRiverModel$Course;", .methodLink RX9 147 yX0_begin, .instanceMethod yX0_begin, .selects RX0 yX0_begin yX0_begin, .initialized RX0, .fieldLink RX9 46 "RiverModel" "startsB" "[I", .methodLink RX9 347 yX4_startOf, .instanceMethod yX4_startOf, .selects RX4 yX4_startOf yX4_startOf, .initialized RX4, .code yX0_begin cX0_begin 3 none, .fieldLink RX0 15 "RiverModel$Course" "moved" "[J", .methodLink RX0 45 yJ7_fill_d0a16, .static yJ7_fill_d0a16, .initialized RJ7, .fieldLink RX0 18 "RiverModel$Course" "openings" "[I", .methodLink RX0 51 yJ7_fill_53178, .static yJ7_fill_53178, .fieldLink RX0 22 "RiverModel$Course" "due" "[J", .fieldLink RX0 25 "RiverModel$Course" "rained" "J", .fieldLink RX0 29 "RiverModel$Course" "air" "J", .fieldLink RX0 32 "RiverModel$Course" "sea" "J", .fieldLink RX0 35 "RiverModel$Course" "hours" "I", .fieldLink RX0 9 "RiverModel$Course" "held" "[J", .methodLink RX0 39 yX4_startOf, .code yJ7_fill_d0a16 cJ7_fill_d0a16 5 none, .code yJ7_fill_53178 cJ7_fill_53178 4 none, .code yX4_startOf cX4_startOf 2 (some .int), .methodLink RX4 66 yX4_hasStore, .instanceMethod yX4_hasStore, .selects RX4 yX4_hasStore yX4_hasStore, .fieldLink RX4 15 "RiverModel$Model" "storeItems" "[I", .methodLink RX4 73 yX4_cell, .instanceMethod yX4_cell, .selects RX4 yX4_cell yX4_cell, .code yX4_hasStore cX4_hasStore 2 (some .boolean), .code yX4_cell cX4_cell 3 (some .int), .fieldLink RX4 9 "RiverModel$Model" "cells" "[I"] ++ wsX90 ++ wsX00 ++ wsX40)
set_option maxRecDepth 20000 in
theorem gu_X9_draftBecomesModel_X0_begin_147 : GoodIn uX9_draftBecomesModel (wsV RX9 147 RX0 yX0_begin uX0_begin) := goodIn_r _ [7, 8, 9, 10, 16, 17, 18, 19, 20, 21, 22, 23, 24, 25, 26, 27, 28, 29, 30, 13, 14, 15, 31, 32, 33, 34, 35, 36, 37, 38, 39, 40, 41, 42, 43, 62, 63, 64, 65, 66, 67, 68, 69, 70, 71, 72, 73, 74, 75] rfl (by decide +kernel)
set_option maxRecDepth 20000 in
theorem gu_X9_draftBecomesModel_X4_startOf_347 : GoodIn uX9_draftBecomesModel (wsV RX9 347 RX4 yX4_startOf uX4_startOf) := goodIn_r _ [12, 13, 14, 15, 33, 34, 35, 36, 15, 37, 38, 39, 40, 41, 42, 43, 70, 71, 72, 73, 74, 75] rfl (by decide +kernel)
set_option maxHeartbeats 4000000 in
set_option maxRecDepth 100000 in
theorem s_X9_draftBecomesModel (l : Launch) (D : va_G) (t : Nat → Nat) (cI cL cC : ClassId) (gC : Int32) (gE : Int32) (G : Nat) (gW : Nat → Int32) (gA : Nat → Int32) (a0 : Nat) (k_a0 : t a0 = 1) : tM l yX9_draftBecomesModel uX9_draftBecomesModel 3 65 D (gF cI cL cC gC gE G gW gA) (gF cI cL cC gC gE G gW gA) t cI cL cC [.ref a0] wrAll (pV (True)) := by
  refine tM.ofW (cc := cX9_draftBecomesModel) (maxL := 3) (ret := none) (by decide) rfl (Nat.le_of_ble_eq_true rfl) ?_
  intro p e s m below meth c hx hb hr hml hown hts hlk H locs hG hK hE hS ls hl
  have hl : lv_has ls 3 [(0, .ref a0)] := hl
  have in9 : ∀ w ∈ wsX90, w ∈ uX9_draftBecomesModel := fun w h => List.mem_cons_of_mem _ (List.mem_append_left _ (List.mem_append_left _ (List.mem_append_right _ h)))
  refine lv_aload_n hx hb dX9_draftBecomesModel_0 rfl (lv_at hl 0 rfl) ?_
  obtain ⟨r_1, r_3, r_5, r_7, v_9, v_10, r_11, r_13, r_15, r_17, r_19, r_21, r_23, v_25, r_27, r_29, r_31, r_33, at_35, h_2, h_4, h_6, h_8, h_12, h_14, h_16, h_18, h_20, h_22, h_24, h_26, h_28, h_30, h_32, h_34⟩ := gF_o1 hG k_a0
  refine va_get (D := D) (ci := 8) (v := .ref r_3) (C := RX9) (T := TX9) (N := 18) hx hb hts in9 hown hK (va_one at_35) 0 rfl rfl 1 (by decide) (hts (.fieldLink RX9 19 "RiverModel" "model" "LRiverModel$Model;") (List.mem_of_getElem? (i := 1) rfl)) (fun _ h9 => h9) rfl dX9_draftBecomesModel_1 ?_
  refine lv_astore_n (lv' := [(1, .ref r_3), (0, .ref a0)]) hx hb dX9_draftBecomesModel_4 rfl hl (by decide) rfl (fun ls hl => ?_)
  refine lv_aload_n hx hb dX9_draftBecomesModel_5 rfl (lv_at hl 1 rfl) ?_
  refine lv_aload_n hx hb dX9_draftBecomesModel_6 rfl (lv_at hl 1 rfl) ?_
  refine va_get (D := D) (ci := 8) (v := .ref r_5) (C := RX9) (T := TX9) (N := 18) hx hb hts in9 hown hK (va_one at_35) 0 rfl rfl 2 (by decide) (hts (.fieldLink RX9 23 "RiverModel" "draft" "LRiverModel$Model;") (List.mem_of_getElem? (i := 2) rfl)) (fun _ h9 => h9) rfl dX9_draftBecomesModel_7 ?_
  refine ty_put (D := D) (ci := 8) (v := .ref r_5) (ty := .object "RiverModel$Model") (C := RX9) (T := TX9) (N := 18) (F2 := (gF cI cL cC gC gE G gW gA)) hx hb hts in9 tyX9 tyX9_ok nmX9 hown hK hG hS at_35 (by rw [k_a0]; rfl) rfl 1 (by decide) (hts (.fieldLink RX9 19 "RiverModel" "model" "LRiverModel$Model;") (List.mem_of_getElem? (i := 1) rfl)) (fun _ h9 => h9) rfl (by decide +kernel) rfl rfl (Nat.le_of_ble_eq_true rfl) (by rw [k_a0]; exact ⟨r_1, r_5, r_5, r_7, v_9, v_10, r_11, r_13, r_15, r_17, r_19, r_21, r_23, v_25, r_27, r_29, r_31, r_33, rfl, h_2, h_6, h_6, h_8, h_12, h_14, h_16, h_18, h_20, h_22, h_24, (by omega), h_28, h_30, h_32, h_34⟩) tFF dX9_draftBecomesModel_10 (fun H locs hG hS at_36 o_37 => ?_)
  have at_36 : va_at D vwCl (a0, .inr (8, [.ref r_1, .ref r_5, .ref r_5, .ref r_7, .int v_9, .int v_10, .ref r_11, .ref r_13, .ref r_15, .ref r_17, .ref r_19, .ref r_21, .ref r_23, .int v_25, .ref r_27, .ref r_29, .ref r_31, .ref r_33])) H := at_36
  refine lv_pc (pc2 := 13) rfl ?_
  refine lv_aload_n hx hb dX9_draftBecomesModel_13 rfl (lv_at hl 1 rfl) ?_
  refine lv_aload_n hx hb dX9_draftBecomesModel_14 rfl (lv_at hl 0 rfl) ?_
  refine ty_put (D := D) (ci := 8) (v := .ref r_3) (ty := .object "RiverModel$Model") (C := RX9) (T := TX9) (N := 18) (F2 := (gF cI cL cC gC gE G gW gA)) hx hb hts in9 tyX9 tyX9_ok nmX9 hown hK hG hS at_36 (by rw [k_a0]; rfl) rfl 2 (by decide) (hts (.fieldLink RX9 23 "RiverModel" "draft" "LRiverModel$Model;") (List.mem_of_getElem? (i := 2) rfl)) (fun _ h9 => h9) rfl (by decide +kernel) rfl rfl (Nat.le_of_ble_eq_true rfl) (by rw [k_a0]; exact ⟨r_1, r_5, r_3, r_7, v_9, v_10, r_11, r_13, r_15, r_17, r_19, r_21, r_23, v_25, r_27, r_29, r_31, r_33, rfl, h_2, h_6, h_4, h_8, h_12, h_14, h_16, h_18, h_20, h_22, h_24, (by omega), h_28, h_30, h_32, h_34⟩) tFF dX9_draftBecomesModel_15 (fun H locs hG hS at_38 o_39 => ?_)
  have at_38 : va_at D vwCl (a0, .inr (8, [.ref r_1, .ref r_5, .ref r_3, .ref r_7, .int v_9, .int v_10, .ref r_11, .ref r_13, .ref r_15, .ref r_17, .ref r_19, .ref r_21, .ref r_23, .int v_25, .ref r_27, .ref r_29, .ref r_31, .ref r_33])) H := at_38
  refine lv_aload_n hx hb dX9_draftBecomesModel_18 rfl (lv_at hl 1 rfl) ?_
  refine lv_iconst (v := 1) hx hb dX9_draftBecomesModel_19 (by decide) ?_
  refine ty_put (D := D) (ci := 8) (v := .int 1) (ty := .boolean) (C := RX9) (T := TX9) (N := 18) (F2 := (gF cI cL cC gC gE G gW gA)) hx hb hts in9 tyX9 tyX9_ok nmX9 hown hK hG hS at_38 (by rw [k_a0]; rfl) rfl 4 (by decide) (hts (.fieldLink RX9 29 "RiverModel" "isBuilt" "Z") (List.mem_of_getElem? (i := 3) rfl)) (fun _ h9 => h9) rfl (by decide +kernel) (by decide) (by decide) (Nat.le_of_ble_eq_true rfl) (by rw [k_a0]; exact ⟨r_1, r_5, r_3, r_7, 1, v_10, r_11, r_13, r_15, r_17, r_19, r_21, r_23, v_25, r_27, r_29, r_31, r_33, rfl, h_2, h_6, h_4, h_8, h_12, h_14, h_16, h_18, h_20, h_22, h_24, (by omega), h_28, h_30, h_32, h_34⟩) tFF dX9_draftBecomesModel_20 (fun H locs hG hS at_40 o_41 => ?_)
  have at_40 : va_at D vwCl (a0, .inr (8, [.ref r_1, .ref r_5, .ref r_3, .ref r_7, .int 1, .int v_10, .ref r_11, .ref r_13, .ref r_15, .ref r_17, .ref r_19, .ref r_21, .ref r_23, .int v_25, .ref r_27, .ref r_29, .ref r_31, .ref r_33])) H := at_40
  refine lv_aload_n hx hb dX9_draftBecomesModel_23 rfl (lv_at hl 1 rfl) ?_
  refine lv_iconst (v := 0) hx hb dX9_draftBecomesModel_24 (by decide) ?_
  refine lv_pc (pc2 := 25) rfl ?_
  refine ty_put (D := D) (ci := 8) (v := .int 0) (ty := .boolean) (C := RX9) (T := TX9) (N := 18) (F2 := (gF cI cL cC gC gE G gW gA)) hx hb hts in9 tyX9 tyX9_ok nmX9 hown hK hG hS at_40 (by rw [k_a0]; rfl) rfl 5 (by decide) (hts (.fieldLink RX9 33 "RiverModel" "isOtherLaid" "Z") (List.mem_of_getElem? (i := 4) rfl)) (fun _ h9 => h9) rfl (by decide +kernel) (by decide) (by decide) (Nat.le_of_ble_eq_true rfl) (by rw [k_a0]; exact ⟨r_1, r_5, r_3, r_7, 1, 0, r_11, r_13, r_15, r_17, r_19, r_21, r_23, v_25, r_27, r_29, r_31, r_33, rfl, h_2, h_6, h_4, h_8, h_12, h_14, h_16, h_18, h_20, h_22, h_24, (by omega), h_28, h_30, h_32, h_34⟩) tFF dX9_draftBecomesModel_25 (fun H locs hG hS at_42 o_43 => ?_)
  have at_42 : va_at D vwCl (a0, .inr (8, [.ref r_1, .ref r_5, .ref r_3, .ref r_7, .int 1, .int 0, .ref r_11, .ref r_13, .ref r_15, .ref r_17, .ref r_19, .ref r_21, .ref r_23, .int v_25, .ref r_27, .ref r_29, .ref r_31, .ref r_33])) H := at_42
  refine lv_aload_n hx hb dX9_draftBecomesModel_28 rfl (lv_at hl 1 rfl) ?_
  refine lv_iconst (v := 0) hx hb dX9_draftBecomesModel_29 (by decide) ?_
  refine ty_put (D := D) (ci := 8) (v := .int 0) (ty := .int) (C := RX9) (T := TX9) (N := 18) (F2 := (gF cI cL cC gC gE G gW gA)) hx hb hts in9 tyX9 tyX9_ok nmX9 hown hK hG hS at_42 (by rw [k_a0]; rfl) rfl 13 (by decide) (hts (.fieldLink RX9 67 "RiverModel" "keptMany" "I") (List.mem_of_getElem? (i := 5) rfl)) (fun _ h9 => h9) rfl (by decide +kernel) rfl rfl (Nat.le_of_ble_eq_true rfl) (by rw [k_a0]; exact ⟨r_1, r_5, r_3, r_7, 1, 0, r_11, r_13, r_15, r_17, r_19, r_21, r_23, 0, r_27, r_29, r_31, r_33, rfl, h_2, h_6, h_4, h_8, h_12, h_14, h_16, h_18, h_20, h_22, h_24, (by rw [show (0 : Int32).toInt = 0 by decide]; omega), h_28, h_30, h_32, h_34⟩) tFF dX9_draftBecomesModel_30 (fun H locs hG hS at_44 o_45 => ?_)
  have at_44 : va_at D vwCl (a0, .inr (8, [.ref r_1, .ref r_5, .ref r_3, .ref r_7, .int 1, .int 0, .ref r_11, .ref r_13, .ref r_15, .ref r_17, .ref r_19, .ref r_21, .ref r_23, .int 0, .ref r_27, .ref r_29, .ref r_31, .ref r_33])) H := at_44
  refine lv_aload_n hx hb dX9_draftBecomesModel_33 rfl (lv_at hl 1 rfl) ?_
  refine va_get (D := D) (ci := 8) (v := .ref r_17) (C := RX9) (T := TX9) (N := 18) hx hb hts in9 hown hK (va_one at_44) 0 rfl rfl 9 (by decide) (hts (.fieldLink RX9 53 "RiverModel" "now" "LRiverModel$Course;") (List.mem_of_getElem? (i := 6) rfl)) (fun _ h9 => h9) rfl dX9_draftBecomesModel_34 ?_
  refine lv_aload_n hx hb dX9_draftBecomesModel_37 rfl (lv_at hl 1 rfl) ?_
  refine va_get (D := D) (ci := 8) (v := .ref r_5) (C := RX9) (T := TX9) (N := 18) hx hb hts in9 hown hK (va_one at_44) 0 rfl rfl 1 (by decide) (hts (.fieldLink RX9 19 "RiverModel" "model" "LRiverModel$Model;") (List.mem_of_getElem? (i := 1) rfl)) (fun _ h9 => h9) rfl dX9_draftBecomesModel_38 ?_
  refine lv_pc (pc2 := 41) rfl ?_
  obtain ⟨r_46, r_48, r_50, r_52, v_54, v_55, v_56, v_57, at_59, h_47, h_49, h_51, h_53, h_58⟩ := gF_o5 hG h_18
  refine ty_callv ((W.runV (As := [.ref r_5]) (rest := []) ⟨hx, hb, hml, hown, hts⟩ (s_X0_begin l D t cI cL cC gC gE G gW gA r_17 r_5 h_18 h_6) (cwV 1 hts gu_X9_draftBecomesModel_X0_begin_147 rfl rfl rfl (by decide +kernel) ⟨Nat.le_of_ble_eq_true rfl, Nat.le_of_ble_eq_true rfl⟩) (tP_V hG hE at_59 rfl) rfl rfl hl.1 rfl (lv_room (Nat.le_of_ble_eq_true rfl)) dX9_draftBecomesModel_41 ⟨Nat.le_of_ble_eq_true rfl, Nat.le_of_ble_eq_true rfl⟩)) hS (wrL_sub (by decide)) (fun H locs hp_61 hG hS o_62 => ?_)
  have at_44 := va_at.keptC at_44 o_62 k_a0 rfl
  refine lv_iconst (v := 0) hx hb dX9_draftBecomesModel_44 (by decide) ?_
  refine lv_istore_n (lv' := [(2, .int 0), (1, .ref r_3), (0, .ref a0)]) hx hb dX9_draftBecomesModel_45 rfl hl (by decide) rfl (fun ls hl => ?_)
  refine lv_pc (pc2 := 46) rfl ?_
  refine lp_gen (fun WW hWW => ?_)
  have kx : ∀ (yk : Int32) (H1 : Heap) (locs1 : List Loc) (ls1 : Array Slot), 0 ≤ yk.toInt → yk.toInt ≤ 16 → tG D (gF cI cL cC gC gE G gW gA) t H1 → tF t wrAll s.heap H1 locs1 → lv_has ls1 3 [(2, .int yk), (1, .ref r_3), (0, .ref a0)] → WW H1 locs1 (F0 m 72 ls1 []) := by
    intro yk H locs ls v0 v1 hG hS hl
    refine (hWW _ _ _).mpr ?_
    exact ty_vret hx hb hr hlk hG hS True.intro dX9_draftBecomesModel_72
  have loop : ∀ (k : Nat) (yk : Int32) (H1 : Heap) (locs1 : List Loc) (ls1 : Array Slot), 16 - yk.toInt ≤ (k : Int) → 0 ≤ yk.toInt → yk.toInt ≤ 16 → tG D (gF cI cL cC gC gE G gW gA) t H1 → tF t wrAll s.heap H1 locs1 → lv_has ls1 3 [(2, .int yk), (1, .ref r_3), (0, .ref a0)] → WW H1 locs1 (F0 m 46 ls1 []) := by
    intro k
    induction k with
    | zero =>
      intro yk H locs ls hk v0 v1 hG hS hl
      refine (hWW _ _ _).mpr ?_
      refine lv_iload_n hx hb dX9_draftBecomesModel_46 rfl (lv_at hl 0 rfl) ?_
      refine lv_bipush (v := 16) hx hb dX9_draftBecomesModel_47 (by decide) ?_
      refine lv_icmp_ge (tgt := 72) hx hb dX9_draftBecomesModel_49 (by decide) (fun c_63 => ?_) (fun c_63 => ?_)
      · skip
        have c_63 : 16 ≤ yk.toInt := q_le c_63
        exact (hWW _ _ _).mp (kx yk H locs ls (by omega) (by omega) hG hS (lv_sub hl [0, 1, 2] rfl))
      · skip
        have c_63 : yk.toInt < 16 := q_nle c_63
        refine lv_aload_n hx hb dX9_draftBecomesModel_52 rfl (lv_at hl 2 rfl) ?_
        refine lv_pc (pc2 := 53) rfl ?_
        obtain ⟨r_64, r_66, r_68, r_70, v_72, v_73, r_74, r_76, r_78, r_80, r_82, r_84, r_86, v_88, r_90, r_92, r_94, r_96, at_98, h_65, h_67, h_69, h_71, h_75, h_77, h_79, h_81, h_83, h_85, h_87, h_89, h_91, h_93, h_95, h_97⟩ := gF_o1 hG k_a0
        refine va_get (D := D) (ci := 8) (v := .ref r_78) (C := RX9) (T := TX9) (N := 18) hx hb hts in9 hown hK (va_one at_98) 0 rfl rfl 8 (by decide) (hts (.fieldLink RX9 46 "RiverModel" "startsB" "[I") (List.mem_of_getElem? (i := 11) rfl)) (fun _ h9 => h9) rfl dX9_draftBecomesModel_53 ?_
        refine lv_iload_n hx hb dX9_draftBecomesModel_56 rfl (lv_at hl 0 rfl) ?_
        refine lv_aload_n hx hb dX9_draftBecomesModel_57 rfl (lv_at hl 2 rfl) ?_
        refine va_get (D := D) (ci := 8) (v := .ref r_66) (C := RX9) (T := TX9) (N := 18) hx hb hts in9 hown hK (va_one at_98) 0 rfl rfl 1 (by decide) (hts (.fieldLink RX9 19 "RiverModel" "model" "LRiverModel$Model;") (List.mem_of_getElem? (i := 1) rfl)) (fun _ h9 => h9) rfl dX9_draftBecomesModel_58 ?_
        refine lv_iload_n hx hb dX9_draftBecomesModel_61 rfl (lv_at hl 0 rfl) ?_
        obtain ⟨r_99, r_101, r_103, v_105, v_106, v_107, at_109, h_100, h_102, h_104, h_108⟩ := gF_o3 hG h_67
        refine ty_calli ((W.runV (As := [.int yk]) (rest := [.int yk, .ref r_78]) ⟨hx, hb, hml, hown, hts⟩ (s_X4_startOf l D t cI cL cC gC gE G gW gA r_66 yk h_67) (cwV 1 hts gu_X9_draftBecomesModel_X4_startOf_347 rfl rfl rfl (by decide +kernel) ⟨Nat.le_of_ble_eq_true rfl, Nat.le_of_ble_eq_true rfl⟩) (tP_V hG hE at_109 rfl) rfl rfl hl.1 rfl (lv_room (Nat.le_of_ble_eq_true rfl)) dX9_draftBecomesModel_62 ⟨Nat.le_of_ble_eq_true rfl, Nat.le_of_ble_eq_true rfl⟩)) hS (fun k h => by simp [wr0] at h) (fun r_110 H locs hp_111 hG hS o_112 => ?_)
        have at_98 := va_at.keptC at_98 o_112 k_a0 rfl
        have at_109 := va_at.keptC at_109 o_112 h_67 rfl
        obtain ⟨f_113, at_114⟩ := gF_o35 hG h_79
        have b_115 : vp_in yk 16 := (q_in (by omega) (by omega))
        refine ty_iast (F2 := (gF cI cL cC gC gE G gW gA)) hx hb hK hG hS 0 at_114 (by rw [h_79]; rfl) rfl b_115 (by rw [h_79]; exact ⟨_, rfl⟩) tFF dX9_draftBecomesModel_65 (fun H locs hG hS at_116 o_117 => ?_)
        have at_98 := va_at.keptK at_98 o_117 h_79 k_a0 rfl
        have at_109 := va_at.keptK at_109 o_117 h_79 h_67 rfl
        obtain ⟨x_118, e_119⟩ : ∃ y : Int32, y = yk + Int32.ofInt 1 := ⟨_, rfl⟩
        have i_x_118 : x_118.toInt = yk.toInt + 1 := by rw [e_119, show Int32.ofInt 1 = 1 by decide]; exact (q_add (by rw [show (1 : Int32).toInt = 1 by decide]; omega) (by rw [show (1 : Int32).toInt = 1 by decide]; omega)).trans (by rw [show (1 : Int32).toInt = 1 by decide])
        refine lv_iinc (v := x_118) (lv' := [(2, .int x_118), (1, .ref r_3), (0, .ref a0)]) hx hb dX9_draftBecomesModel_66 hl (k := 0) rfl e_119.symm (by decide) rfl (fun ls hl => ?_)
        refine lv_pc (pc2 := 69) rfl ?_
        refine lv_goto (tgt := 46) hx hb dX9_draftBecomesModel_69 (by decide) ?_
        exfalso; omega
    | succ k ih =>
      intro yk H locs ls hk v0 v1 hG hS hl
      refine (hWW _ _ _).mpr ?_
      refine lv_iload_n hx hb dX9_draftBecomesModel_46 rfl (lv_at hl 0 rfl) ?_
      refine lv_bipush (v := 16) hx hb dX9_draftBecomesModel_47 (by decide) ?_
      refine lv_icmp_ge (tgt := 72) hx hb dX9_draftBecomesModel_49 (by decide) (fun c_120 => ?_) (fun c_120 => ?_)
      · skip
        have c_120 : 16 ≤ yk.toInt := q_le c_120
        exact (hWW _ _ _).mp (kx yk H locs ls (by omega) (by omega) hG hS (lv_sub hl [0, 1, 2] rfl))
      · skip
        have c_120 : yk.toInt < 16 := q_nle c_120
        refine lv_aload_n hx hb dX9_draftBecomesModel_52 rfl (lv_at hl 2 rfl) ?_
        obtain ⟨r_121, r_123, r_125, r_127, v_129, v_130, r_131, r_133, r_135, r_137, r_139, r_141, r_143, v_145, r_147, r_149, r_151, r_153, at_155, h_122, h_124, h_126, h_128, h_132, h_134, h_136, h_138, h_140, h_142, h_144, h_146, h_148, h_150, h_152, h_154⟩ := gF_o1 hG k_a0
        refine va_get (D := D) (ci := 8) (v := .ref r_135) (C := RX9) (T := TX9) (N := 18) hx hb hts in9 hown hK (va_one at_155) 0 rfl rfl 8 (by decide) (hts (.fieldLink RX9 46 "RiverModel" "startsB" "[I") (List.mem_of_getElem? (i := 11) rfl)) (fun _ h9 => h9) rfl dX9_draftBecomesModel_53 ?_
        refine lv_iload_n hx hb dX9_draftBecomesModel_56 rfl (lv_at hl 0 rfl) ?_
        refine lv_aload_n hx hb dX9_draftBecomesModel_57 rfl (lv_at hl 2 rfl) ?_
        refine lv_pc (pc2 := 58) rfl ?_
        refine va_get (D := D) (ci := 8) (v := .ref r_123) (C := RX9) (T := TX9) (N := 18) hx hb hts in9 hown hK (va_one at_155) 0 rfl rfl 1 (by decide) (hts (.fieldLink RX9 19 "RiverModel" "model" "LRiverModel$Model;") (List.mem_of_getElem? (i := 1) rfl)) (fun _ h9 => h9) rfl dX9_draftBecomesModel_58 ?_
        refine lv_iload_n hx hb dX9_draftBecomesModel_61 rfl (lv_at hl 0 rfl) ?_
        obtain ⟨r_156, r_158, r_160, v_162, v_163, v_164, at_166, h_157, h_159, h_161, h_165⟩ := gF_o3 hG h_124
        refine ty_calli ((W.runV (As := [.int yk]) (rest := [.int yk, .ref r_135]) ⟨hx, hb, hml, hown, hts⟩ (s_X4_startOf l D t cI cL cC gC gE G gW gA r_123 yk h_124) (cwV 1 hts gu_X9_draftBecomesModel_X4_startOf_347 rfl rfl rfl (by decide +kernel) ⟨Nat.le_of_ble_eq_true rfl, Nat.le_of_ble_eq_true rfl⟩) (tP_V hG hE at_166 rfl) rfl rfl hl.1 rfl (lv_room (Nat.le_of_ble_eq_true rfl)) dX9_draftBecomesModel_62 ⟨Nat.le_of_ble_eq_true rfl, Nat.le_of_ble_eq_true rfl⟩)) hS (fun k h => by simp [wr0] at h) (fun r_167 H locs hp_168 hG hS o_169 => ?_)
        have at_155 := va_at.keptC at_155 o_169 k_a0 rfl
        have at_166 := va_at.keptC at_166 o_169 h_124 rfl
        obtain ⟨f_170, at_171⟩ := gF_o35 hG h_136
        have b_172 : vp_in yk 16 := (q_in (by omega) (by omega))
        refine ty_iast (F2 := (gF cI cL cC gC gE G gW gA)) hx hb hK hG hS 0 at_171 (by rw [h_136]; rfl) rfl b_172 (by rw [h_136]; exact ⟨_, rfl⟩) tFF dX9_draftBecomesModel_65 (fun H locs hG hS at_173 o_174 => ?_)
        have at_155 := va_at.keptK at_155 o_174 h_136 k_a0 rfl
        have at_166 := va_at.keptK at_166 o_174 h_136 h_124 rfl
        obtain ⟨x_175, e_176⟩ : ∃ y : Int32, y = yk + Int32.ofInt 1 := ⟨_, rfl⟩
        have i_x_175 : x_175.toInt = yk.toInt + 1 := by rw [e_176, show Int32.ofInt 1 = 1 by decide]; exact (q_add (by rw [show (1 : Int32).toInt = 1 by decide]; omega) (by rw [show (1 : Int32).toInt = 1 by decide]; omega)).trans (by rw [show (1 : Int32).toInt = 1 by decide])
        refine lv_iinc (v := x_175) (lv' := [(2, .int x_175), (1, .ref r_3), (0, .ref a0)]) hx hb dX9_draftBecomesModel_66 hl (k := 0) rfl e_176.symm (by decide) rfl (fun ls hl => ?_)
        refine lv_goto (tgt := 46) hx hb dX9_draftBecomesModel_69 (by decide) ?_
        exact (hWW _ _ _).mp (ih x_175 H locs ls (by omega) (by omega) (by omega) hG hS (lv_sub hl [0, 1, 2] rfl))
  have hz_yk : (0 : Int32).toInt = 0 := by decide
  exact loop (16 - 0 : Int).toNat 0 H locs ls (by omega) (by omega) (by omega) hG hS (lv_sub hl [0, 1, 2] rfl)

def uX9_pointHolds : List Cond := .code yX9_pointHolds cX9_pointHolds 4 (some .boolean) :: ([.fieldLink RX9 23 "RiverModel" "draft" "LRiverModel$Model;", .fieldLink RX9 19 "RiverModel" "model" "LRiverModel$Model;", .methodLink RX9 316 yX4_copyFrom, .instanceMethod yX4_copyFrom, .selects RX4 yX4_copyFrom yX4_copyFrom, .initialized RX4, .fieldLink RX9 81 "RiverModel" "knobs" "LRiverModel$Knobs;", .methodLink RX9 350 yX3_lay, .instanceMethod yX3_lay, .selects RX3 yX3_lay yX3_lay, .initialized RX3, .fieldLink RX9 57 "RiverModel" "trial" "LRiverModel$Course;", .methodLink RX9 147 yX0_begin, .instanceMethod yX0_begin, .selects RX0 yX0_begin yX0_begin, .initialized RX0, .fieldLink RX9 74 "RiverModel" "gauges" "LRiverModel$Gauges;", .methodLink RX9 354 yX1_lastSeen, .instanceMethod yX1_lastSeen, .selects RX1 yX1_lastSeen yX1_lastSeen, .initialized RX1, .fieldLink RX9 39 "RiverModel" "skyA" "LRiverModel$Sky;", .methodLink RX9 357 yX6_rainIn, .instanceMethod yX6_rainIn, .selects RX6 yX6_rainIn yX6_rainIn, .initialized RX6, .methodLink RX9 360 yX6_tempIn, .instanceMethod yX6_tempIn, .selects RX6 yX6_tempIn yX6_tempIn, .methodLink RX9 363 yX0_goHour, .instanceMethod yX0_goHour, .selects RX0 yX0_goHour yX0_goHour, .methodLink RX9 367 yX1_agree, .instanceMethod yX1_agree, .selects RX1 yX1_agree yX1_agree, .code yX4_copyFrom cX4_copyFrom 2 none, .fieldLink RX4 9 "RiverModel$Model" "cells" "[I", .methodLink RX4 37 arraycopyName, .native arraycopyName, .static arraycopyName, .initialized "java/lang/System", .fieldLink RX4 15 "RiverModel$Model" "storeItems" "[I", .fieldLink RX4 18 "RiverModel$Model" "gateItems" "[I", .fieldLink RX4 21 "RiverModel$Model" "many" "I", .fieldLink RX4 25 "RiverModel$Model" "stores" "I", .fieldLink RX4 28 "RiverModel$Model" "gates" "I", .code yX3_lay cX3_lay 4 (some .boolean), .methodLink RX3 37 yX3_isSet, .instanceMethod yX3_isSet, .selects RX3 yX3_isSet yX3_isSet, .fieldLink RX3 9 "RiverModel$Knobs" "items" "[I", .methodLink RX3 63 yX4_isItemAsTold, .instanceMethod yX4_isItemAsTold, .selects RX4 yX4_isItemAsTold yX4_isItemAsTold, .fieldLink RX3 15 "RiverModel$Knobs" "numbers" "[I", .methodLink RX3 50 yX4_hasNumber, .instanceMethod yX4_hasNumber, .selects RX4 yX4_hasNumber yX4_hasNumber, .methodLink RX3 56 yX3_numberAt, .instanceMethod yX3_numberAt, .selects RX3 yX3_numberAt yX3_numberAt, .methodLink RX3 59 yX4_putCell, .instanceMethod yX4_putCell, .selects RX4 yX4_putCell yX4_putCell, .code yX3_isSet cX3_isSet 2 (some .boolean), .fieldLink RX3 24 "RiverModel$Knobs" "manys" "[I", .code yX4_isItemAsTold cX4_isItemAsTold 2 (some .boolean), .methodLink RX4 73 yX4_cell, .instanceMethod yX4_cell, .selects RX4 yX4_cell yX4_cell, .methodLink RX4 77 yX2_areNumbersAsTold, .static yX2_areNumbersAsTold, .initialized RX2, .code yX4_cell cX4_cell 3 (some .int), .code yX2_areNumbersAsTold cX2_areNumbersAsTold 4 (some .boolean), .methodLink RX2 10 yX2_isUpTo, .static yX2_isUpTo, .constant RX2 9 (1000000), .code yX2_isUpTo cX2_isUpTo 2 (some .boolean), .code yX4_hasNumber cX4_hasNumber 3 (some .boolean), .methodLink RX4 86 yX2_numbersOf, .static yX2_numbersOf, .code yX2_numbersOf cX2_numbersOf 1 (some .int), .code yX3_numberAt cX3_numberAt 4 (some .int), .initialized RX9, .static yX9_isNoKnob, .methodLink RX3 40 yX3_pointsOf, .instanceMethod yX3_pointsOf, .selects RX3 yX3_pointsOf yX3_pointsOf, .methodLink RX3 44 Lib.Math.max.name, .static Lib.Math.max.name, .initialized "java/lang/Math", .code Lib.Math.max.name Lib.Math.max.code 2 (some .int), .fieldLink RX3 18 "RiverModel$Knobs" "froms" "[I", .fieldLink RX3 21 "RiverModel$Knobs" "steps" "[I", .code yX9_isNoKnob cX9_isNoKnob 1 (some .boolean), .code yX3_pointsOf cX3_pointsOf 2 (some .int), .code yX4_putCell cX4_putCell 4 none, .static yX9_isNoItem, .static yX9_isOutside, .code yX9_isNoItem cX9_isNoItem 1 (some .boolean), .code yX9_isOutside cX9_isOutside 3 (some .boolean), .code yX0_begin cX0_begin 3 none, .fieldLink RX0 15 "RiverModel$Course" "moved" "[J", .methodLink RX0 45 yJ7_fill_d0a16, .static yJ7_fill_d0a16, .initialized RJ7, .fieldLink RX0 18 "RiverModel$Course" "openings" "[I", .methodLink RX0 51 yJ7_fill_53178, .static yJ7_fill_53178, .fieldLink RX0 22 "RiverModel$Course" "due" "[J", .fieldLink RX0 25 "RiverModel$Course" "rained" "J", .fieldLink RX0 29 "RiverModel$Course" "air" "J", .fieldLink RX0 32 "RiverModel$Course" "sea" "J", .fieldLink RX0 35 "RiverModel$Course" "hours" "I", .fieldLink RX0 9 "RiverModel$Course" "held" "[J", .methodLink RX0 39 yX4_startOf, .instanceMethod yX4_startOf, .selects RX4 yX4_startOf yX4_startOf, .code yJ7_fill_d0a16 cJ7_fill_d0a16 5 none, .code yJ7_fill_53178 cJ7_fill_53178 4 none, .code yX4_startOf cX4_startOf 2 (some .int), .methodLink RX4 66 yX4_hasStore, .instanceMethod yX4_hasStore, .selects RX4 yX4_hasStore yX4_hasStore, .code yX4_hasStore cX4_hasStore 2 (some .boolean), .code yX1_lastSeen cX1_lastSeen 3 (some .int), .fieldLink RX1 18 "RiverModel$Gauges" "seen" "[I", .methodLink RX1 67 Lib.Math.max.name, .code yX6_rainIn cX6_rainIn 2 (some .int), .fieldLink RX6 9 "RiverModel$Sky" "rains" "[I", .code yX6_tempIn cX6_tempIn 2 (some .int), .fieldLink RX6 15 "RiverModel$Sky" "temps" "[I", .code yX0_goHour cX0_goHour 7 none, .methodLink RX0 72 yX0_bringDue, .instanceMethod yX0_bringDue, .selects RX0 yX0_bringDue yX0_bringDue, .fieldLink RX0 75 "RiverModel$Model" "many" "I", .methodLink RX0 78 yX0_amountOf, .instanceMethod yX0_amountOf, .selects RX0 yX0_amountOf yX0_amountOf, .methodLink RX0 82 yX0_move, .instanceMethod yX0_move, .selects RX0 yX0_move yX0_move, .code yX0_bringDue cX0_bringDue 3 none, .code yX0_amountOf cX0_amountOf 11 (some .long), .methodLink RX0 86 yX4_cell, .static yX9_isNoStore, .methodLink RX0 110 yX4_gateOf, .instanceMethod yX4_gateOf, .selects RX4 yX4_gateOf yX4_gateOf, .methodLink RX0 113 yX0_openingOf, .instanceMethod yX0_openingOf, .selects RX0 yX0_openingOf yX0_openingOf, .methodLink RX0 107 Lib.MathLoose.min_long.x, .static Lib.MathLoose.min_long.x, .code Lib.MathLoose.min_long.x Lib.MathLoose.min_long.code 4 (some .long), .methodLink RX0 94 yX0_leakOf, .static yX0_leakOf, .constantLong RX0 117 (100), .methodLink RX0 98 yX4_capacityOf, .instanceMethod yX4_capacityOf, .selects RX4 yX4_capacityOf yX4_capacityOf, .methodLink RX0 101 Lib.MathLoose.max_long.x, .static Lib.MathLoose.max_long.x, .code Lib.MathLoose.max_long.x Lib.MathLoose.max_long.code 4 (some .long), .constantLong RX0 119 (10), .code yX9_isNoStore cX9_isNoStore 1 (some .boolean), .code yX4_gateOf cX4_gateOf 3 (some .int), .code yX0_openingOf cX0_openingOf 2 (some .long), .static yX9_isNoGate, .code yX9_isNoGate cX9_isNoGate 1 (some .boolean), .code yX0_leakOf cX0_leakOf 8 (some .long), .code yX4_capacityOf cX4_capacityOf 2 (some .int), .code yX0_move cX0_move 8 none, .methodLink RX0 124 yX0_send, .instanceMethod yX0_send, .selects RX0 yX0_send yX0_send, .code yX0_send cX0_send 5 none, .code yX1_agree cX1_agree 5 (some .boolean), .methodLink RX1 57 yX1_reading, .instanceMethod yX1_reading, .selects RX1 yX1_reading yX1_reading, .methodLink RX1 61 Lib.MathLoose.abs_long.x, .static Lib.MathLoose.abs_long.x, .code Lib.MathLoose.abs_long.x Lib.MathLoose.abs_long.code 2 (some .long), .fieldLink RX1 21 "RiverModel$Gauges" "mayBeOff" "I", .code yX1_reading cX1_reading 4 (some .long), .methodLink RX1 35 yX1_isSet, .instanceMethod yX1_isSet, .selects RX1 yX1_isSet yX1_isSet, .fieldLink RX1 15 "RiverModel$Gauges" "places" "[I", .fieldLink RX1 9 "RiverModel$Gauges" "whats" "[I", .fieldLink RX1 50 "RiverModel$Course" "held" "[J", .fieldLink RX1 41 "RiverModel$Course" "moved" "[J", .code yX1_isSet cX1_isSet 2 (some .boolean)] ++ wsX90 ++ wsX40 ++ wsX30 ++ wsX00 ++ wsX10 ++ wsX60)
set_option maxRecDepth 20000 in
theorem gu_X9_pointHolds_X4_copyFrom_316 : GoodIn uX9_pointHolds (wsV RX9 316 RX4 yX4_copyFrom uX4_copyFrom) := goodIn_r _ [3, 4, 5, 6, 36, 37, 38, 39, 40, 41, 42, 43, 44, 45, 46, 215, 216, 217, 218, 219, 220] rfl (by decide +kernel)
set_option maxRecDepth 20000 in
theorem gu_X9_pointHolds_X3_lay_350 : GoodIn uX9_pointHolds (wsV RX9 350 RX3 yX3_lay uX3_lay) := goodIn_r _ [8, 9, 10, 11, 47, 48, 49, 50, 11, 51, 52, 53, 54, 6, 55, 56, 57, 58, 59, 60, 61, 62, 63, 64, 65, 66, 67, 68, 69, 70, 71, 72, 73, 74, 37, 75, 76, 77, 78, 79, 80, 81, 82, 83, 84, 85, 86, 87, 88, 89, 90, 91, 92, 93, 94, 95, 96, 97, 98, 99, 100, 101, 102, 221, 222, 223, 224, 225, 215, 216, 217, 218, 219, 220] rfl (by decide +kernel)
set_option maxRecDepth 20000 in
theorem gu_X9_pointHolds_X0_begin_147 : GoodIn uX9_pointHolds (wsV RX9 147 RX0 yX0_begin uX0_begin) := goodIn_r _ [13, 14, 15, 16, 103, 104, 105, 106, 107, 108, 109, 110, 111, 112, 113, 114, 115, 116, 117, 118, 119, 6, 120, 121, 122, 123, 124, 125, 42, 68, 69, 70, 126, 74, 37, 226, 227, 228, 229, 230, 231, 232, 233, 215, 216, 217, 218, 219, 220] rfl (by decide +kernel)
set_option maxRecDepth 20000 in
theorem gu_X9_pointHolds_X1_lastSeen_354 : GoodIn uX9_pointHolds (wsV RX9 354 RX1 yX1_lastSeen uX1_lastSeen) := goodIn_r _ [18, 19, 20, 21, 127, 128, 129, 91, 92, 93, 234, 235, 236, 237] rfl (by decide +kernel)
set_option maxRecDepth 20000 in
theorem gu_X9_pointHolds_X6_rainIn_357 : GoodIn uX9_pointHolds (wsV RX9 357 RX6 yX6_rainIn uX6_rainIn) := goodIn_r _ [23, 24, 25, 26, 130, 85, 100, 131, 102, 238, 239] rfl (by decide +kernel)
set_option maxRecDepth 20000 in
theorem gu_X9_pointHolds_X6_tempIn_360 : GoodIn uX9_pointHolds (wsV RX9 360 RX6 yX6_tempIn uX6_tempIn) := goodIn_r _ [27, 28, 29, 26, 132, 85, 100, 133, 102, 238, 239] rfl (by decide +kernel)
set_option maxRecDepth 20000 in
theorem gu_X9_pointHolds_X0_goHour_363 : GoodIn uX9_pointHolds (wsV RX9 363 RX0 yX0_goHour uX0_goHour) := goodIn_r _ [30, 31, 32, 16, 134, 135, 136, 137, 16, 115, 138, 139, 140, 141, 104, 142, 143, 144, 145, 116, 111, 146, 147, 69, 70, 6, 85, 148, 149, 150, 151, 152, 153, 154, 155, 156, 92, 157, 158, 159, 160, 161, 162, 163, 164, 165, 166, 167, 74, 37, 168, 169, 46, 43, 170, 171, 108, 172, 173, 174, 123, 124, 125, 42, 68, 126, 175, 112, 176, 177, 178, 114, 113, 179, 100, 102, 226, 227, 228, 229, 230, 231, 232, 233, 215, 216, 217, 218, 219, 220] rfl (by decide +kernel)
set_option maxRecDepth 20000 in
theorem gu_X9_pointHolds_X1_agree_367 : GoodIn uX9_pointHolds (wsV RX9 367 RX1 yX1_agree uX1_agree) := goodIn_r _ [33, 34, 35, 21, 180, 128, 181, 182, 183, 21, 184, 185, 92, 186, 187, 188, 189, 190, 191, 192, 193, 85, 148, 194, 99, 195, 196, 168, 101, 234, 235, 236, 237, 226, 227, 228, 229, 230, 231, 232, 233] rfl (by decide +kernel)
set_option maxHeartbeats 4000000 in
set_option maxRecDepth 100000 in
theorem s_X9_pointHolds (l : Launch) (D : va_G) (t : Nat → Nat) (cI cL cC : ClassId) (gC : Int32) (gE : Int32) (G : Nat) (gW : Nat → Int32) (gA : Nat → Int32) (a0 : Nat) (a1 : Int32) (hGb : G ≤ 190000000) (k_a0 : t a0 = 1) : tM l yX9_pointHolds uX9_pointHolds 4 99 D (gF cI cL cC gC gE G gW gA) (gF cI cL cC gC gE (G + 96) gW gA) t cI cL cC [.ref a0, .int a1] wrAll (pI (fun r => r = 0 ∨ r = 1)) := by
  refine tM.ofW (cc := cX9_pointHolds) (maxL := 4) (ret := (some .boolean)) (by decide) rfl (Nat.le_of_ble_eq_true rfl) ?_
  intro p e s m below meth c hx hb hr hml hown hts hlk H locs hG hK hE hS ls hl
  have hl : lv_has ls 4 [(0, .ref a0), (1, .int a1)] := hl
  have in9 : ∀ w ∈ wsX90, w ∈ uX9_pointHolds := fun w h => List.mem_cons_of_mem _ (List.mem_append_left _ (List.mem_append_left _ (List.mem_append_left _ (List.mem_append_left _ (List.mem_append_left _ (List.mem_append_right _ h))))))
  refine lv_aload_n hx hb dX9_pointHolds_0 rfl (lv_at hl 0 rfl) ?_
  obtain ⟨r_1, r_3, r_5, r_7, v_9, v_10, r_11, r_13, r_15, r_17, r_19, r_21, r_23, v_25, r_27, r_29, r_31, r_33, at_35, h_2, h_4, h_6, h_8, h_12, h_14, h_16, h_18, h_20, h_22, h_24, h_26, h_28, h_30, h_32, h_34⟩ := gF_o1 hG k_a0
  refine va_get (D := D) (ci := 8) (v := .ref r_5) (C := RX9) (T := TX9) (N := 18) hx hb hts in9 hown hK (va_one at_35) 0 rfl rfl 2 (by decide) (hts (.fieldLink RX9 23 "RiverModel" "draft" "LRiverModel$Model;") (List.mem_of_getElem? (i := 1) rfl)) (fun _ h9 => h9) rfl dX9_pointHolds_1 ?_
  refine lv_aload_n hx hb dX9_pointHolds_4 rfl (lv_at hl 0 rfl) ?_
  refine va_get (D := D) (ci := 8) (v := .ref r_3) (C := RX9) (T := TX9) (N := 18) hx hb hts in9 hown hK (va_one at_35) 0 rfl rfl 1 (by decide) (hts (.fieldLink RX9 19 "RiverModel" "model" "LRiverModel$Model;") (List.mem_of_getElem? (i := 2) rfl)) (fun _ h9 => h9) rfl dX9_pointHolds_5 ?_
  obtain ⟨r_36, r_38, r_40, v_42, v_43, v_44, at_46, h_37, h_39, h_41, h_45⟩ := gF_o3 hG h_6
  refine ty_callv ((W.runV (As := [.ref r_3]) (rest := []) ⟨hx, hb, hml, hown, hts⟩ (s_X4_copyFrom l D t cI cL cC gC gE G gW gA r_5 r_3 h_6 h_4) (cwV 1 hts gu_X9_pointHolds_X4_copyFrom_316 rfl rfl rfl (by decide +kernel) ⟨Nat.le_of_ble_eq_true rfl, Nat.le_of_ble_eq_true rfl⟩) (tP_V hG hE at_46 rfl) rfl rfl hl.1 rfl (lv_room (Nat.le_of_ble_eq_true rfl)) dX9_pointHolds_8 ⟨Nat.le_of_ble_eq_true rfl, Nat.le_of_ble_eq_true rfl⟩)) hS (wrL_sub (by decide)) (fun H locs hp_48 hG hS o_49 => ?_)
  have at_35 := va_at.keptC at_35 o_49 k_a0 rfl
  refine lv_aload_n hx hb dX9_pointHolds_11 rfl (lv_at hl 0 rfl) ?_
  refine va_get (D := D) (ci := 8) (v := .ref r_29) (C := RX9) (T := TX9) (N := 18) hx hb hts in9 hown hK (va_one at_35) 0 rfl rfl 15 (by decide) (hts (.fieldLink RX9 81 "RiverModel" "knobs" "LRiverModel$Knobs;") (List.mem_of_getElem? (i := 7) rfl)) (fun _ h9 => h9) rfl dX9_pointHolds_12 ?_
  refine lv_pc (pc2 := 15) rfl ?_
  refine lv_iload_n hx hb dX9_pointHolds_15 rfl (lv_at hl 1 rfl) ?_
  refine lv_aload_n hx hb dX9_pointHolds_16 rfl (lv_at hl 0 rfl) ?_
  refine va_get (D := D) (ci := 8) (v := .ref r_5) (C := RX9) (T := TX9) (N := 18) hx hb hts in9 hown hK (va_one at_35) 0 rfl rfl 2 (by decide) (hts (.fieldLink RX9 23 "RiverModel" "draft" "LRiverModel$Model;") (List.mem_of_getElem? (i := 1) rfl)) (fun _ h9 => h9) rfl dX9_pointHolds_17 ?_
  obtain ⟨r_50, r_52, r_54, r_56, r_58, at_60, h_51, h_53, h_55, h_57, h_59⟩ := gF_o7 hG h_30
  refine ty_calli ((W.runV (As := [.int a1, .ref r_5]) (rest := []) ⟨hx, hb, hml, hown, hts⟩ (s_X3_lay l D t cI cL cC gC gE G gW gA r_29 a1 r_5 h_30 h_6) (cwV 2 hts gu_X9_pointHolds_X3_lay_350 rfl rfl rfl (by decide +kernel) ⟨Nat.le_of_ble_eq_true rfl, Nat.le_of_ble_eq_true rfl⟩) (tP_V hG hE at_60 rfl) rfl rfl hl.1 rfl (lv_room (Nat.le_of_ble_eq_true rfl)) dX9_pointHolds_20 ⟨Nat.le_of_ble_eq_true rfl, Nat.le_of_ble_eq_true rfl⟩)) hS (wrL_sub (by decide)) (fun r_61 H locs hp_62 hG hS o_63 => ?_)
  have at_35 := va_at.keptC at_35 o_63 k_a0 rfl
  have at_60 := va_at.keptC at_60 o_63 h_30 rfl
  rcases hp_62 with rfl | rfl
  · skip
    refine lv_if_ne (tgt := 28) hx hb dX9_pointHolds_23 (by decide) (fun q => absurd rfl q) (fun _ => ?_)
    refine lv_iconst (v := 0) hx hb dX9_pointHolds_26 (by decide) ?_
    exact ty_zret hx hb hr hlk rfl (hG.weak (fun _ _ => gF_mono (by omega))) hS (by decide) dX9_pointHolds_27
  · skip
    refine lv_if_ne (tgt := 28) hx hb dX9_pointHolds_23 (by decide) (fun _ => ?_) (fun q => absurd q (by decide))
    refine lv_pc (pc2 := 28) rfl ?_
    refine lv_aload_n hx hb dX9_pointHolds_28 rfl (lv_at hl 0 rfl) ?_
    refine va_get (D := D) (ci := 8) (v := .ref r_19) (C := RX9) (T := TX9) (N := 18) hx hb hts in9 hown hK (va_one at_35) 0 rfl rfl 10 (by decide) (hts (.fieldLink RX9 57 "RiverModel" "trial" "LRiverModel$Course;") (List.mem_of_getElem? (i := 12) rfl)) (fun _ h9 => h9) rfl dX9_pointHolds_29 ?_
    refine lv_aload_n hx hb dX9_pointHolds_32 rfl (lv_at hl 0 rfl) ?_
    refine va_get (D := D) (ci := 8) (v := .ref r_5) (C := RX9) (T := TX9) (N := 18) hx hb hts in9 hown hK (va_one at_35) 0 rfl rfl 2 (by decide) (hts (.fieldLink RX9 23 "RiverModel" "draft" "LRiverModel$Model;") (List.mem_of_getElem? (i := 1) rfl)) (fun _ h9 => h9) rfl dX9_pointHolds_33 ?_
    obtain ⟨r_64, r_66, r_68, r_70, v_72, v_73, v_74, v_75, at_77, h_65, h_67, h_69, h_71, h_76⟩ := gF_o5 hG h_20
    refine ty_callv ((W.runV (As := [.ref r_5]) (rest := []) ⟨hx, hb, hml, hown, hts⟩ (s_X0_begin l D t cI cL cC gC gE G gW gA r_19 r_5 h_20 h_6) (cwV 1 hts gu_X9_pointHolds_X0_begin_147 rfl rfl rfl (by decide +kernel) ⟨Nat.le_of_ble_eq_true rfl, Nat.le_of_ble_eq_true rfl⟩) (tP_V hG hE at_77 rfl) rfl rfl hl.1 rfl (lv_room (Nat.le_of_ble_eq_true rfl)) dX9_pointHolds_36 ⟨Nat.le_of_ble_eq_true rfl, Nat.le_of_ble_eq_true rfl⟩)) hS (wrL_sub (by decide)) (fun H locs hp_79 hG hS o_80 => ?_)
    have at_35 := va_at.keptC at_35 o_80 k_a0 rfl
    have at_60 := va_at.keptC at_60 o_80 h_30 rfl
    refine lv_aload_n hx hb dX9_pointHolds_39 rfl (lv_at hl 0 rfl) ?_
    refine va_get (D := D) (ci := 8) (v := .ref r_27) (C := RX9) (T := TX9) (N := 18) hx hb hts in9 hown hK (va_one at_35) 0 rfl rfl 14 (by decide) (hts (.fieldLink RX9 74 "RiverModel" "gauges" "LRiverModel$Gauges;") (List.mem_of_getElem? (i := 17) rfl)) (fun _ h9 => h9) rfl dX9_pointHolds_40 ?_
    obtain ⟨r_81, r_83, r_85, at_87, h_82, h_84, h_86⟩ := gF_o6 hG h_28
    refine ty_calli ((W.runV (As := []) (rest := []) ⟨hx, hb, hml, hown, hts⟩ (s_X1_lastSeen l D t cI cL cC gC gE G gW gA r_27 h_28) (cwV 0 hts gu_X9_pointHolds_X1_lastSeen_354 rfl rfl rfl (by decide +kernel) ⟨Nat.le_of_ble_eq_true rfl, Nat.le_of_ble_eq_true rfl⟩) (tP_V hG hE at_87 rfl) rfl rfl hl.1 rfl (lv_room (Nat.le_of_ble_eq_true rfl)) dX9_pointHolds_43 ⟨Nat.le_of_ble_eq_true rfl, Nat.le_of_ble_eq_true rfl⟩)) hS (fun k h => by simp [wr0] at h) (fun r_88 H locs hp_89 hG hS o_90 => ?_)
    have at_35 := va_at.keptC at_35 o_90 k_a0 rfl
    have at_60 := va_at.keptC at_60 o_90 h_30 rfl
    have at_87 := va_at.keptC at_87 o_90 h_28 rfl
    have hp_89 := hp_89
    refine lv_pc (pc2 := 46) rfl ?_
    refine lv_istore_n (lv' := [(2, .int r_88), (0, .ref a0), (1, .int a1)]) hx hb dX9_pointHolds_46 rfl hl (by decide) rfl (fun ls hl => ?_)
    refine lv_iconst (v := 0) hx hb dX9_pointHolds_47 (by decide) ?_
    refine lv_istore_n (lv' := [(3, .int 0), (2, .int r_88), (0, .ref a0), (1, .int a1)]) hx hb dX9_pointHolds_48 rfl hl (by decide) rfl (fun ls hl => ?_)
    refine lv_pc (pc2 := 49) rfl ?_
    refine lp_gen (fun WW hWW => ?_)
    have kx : ∀ (yh : Int32) (g : Nat) (H1 : Heap) (locs1 : List Loc) (ls1 : Array Slot), 0 ≤ yh.toInt → yh.toInt ≤ 96 → (g : Int) + (96 - yh.toInt) ≤ (G : Int) + 96 → tG D (gF cI cL cC gC gE g gW gA) t H1 → tF t wrAll s.heap H1 locs1 → lv_has ls1 4 [(3, .int yh), (2, .int r_88), (0, .ref a0), (1, .int a1)] → WW H1 locs1 (F0 m 104 ls1 []) := by
      intro yh g H locs ls v0 v1 v2 hG hS hl
      refine (hWW _ _ _).mpr ?_
      refine lv_iconst (v := 1) hx hb dX9_pointHolds_104 (by decide) ?_
      exact ty_zret hx hb hr hlk rfl (hG.weak (fun _ _ => gF_mono (by omega))) hS (by decide) dX9_pointHolds_105
    have loop : ∀ (k : Nat) (yh : Int32) (g : Nat) (H1 : Heap) (locs1 : List Loc) (ls1 : Array Slot), 96 - yh.toInt ≤ (k : Int) → 0 ≤ yh.toInt → yh.toInt ≤ 96 → (g : Int) + (96 - yh.toInt) ≤ (G : Int) + 96 → tG D (gF cI cL cC gC gE g gW gA) t H1 → tF t wrAll s.heap H1 locs1 → lv_has ls1 4 [(3, .int yh), (2, .int r_88), (0, .ref a0), (1, .int a1)] → WW H1 locs1 (F0 m 49 ls1 []) := by
      intro k
      induction k with
      | zero =>
        intro yh g H locs ls hk v0 v1 v2 hG hS hl
        refine (hWW _ _ _).mpr ?_
        refine lv_iload_n hx hb dX9_pointHolds_49 rfl (lv_at hl 0 rfl) ?_
        refine lv_iload_n hx hb dX9_pointHolds_50 rfl (lv_at hl 1 rfl) ?_
        refine lv_icmp_gt (tgt := 104) hx hb dX9_pointHolds_51 (by decide) (fun c_91 => ?_) (fun c_91 => ?_)
        · skip
          have c_91 : r_88.toInt < yh.toInt := q_lt c_91
          exact (hWW _ _ _).mp (kx yh g H locs ls (by omega) (by omega) (by omega) hG hS (lv_sub hl [0, 1, 2, 3] rfl))
        · skip
          have c_91 : yh.toInt ≤ r_88.toInt := q_nlt c_91
          refine lv_pc (pc2 := 54) rfl ?_
          refine lv_aload_n hx hb dX9_pointHolds_54 rfl (lv_at hl 2 rfl) ?_
          obtain ⟨r_92, r_94, r_96, r_98, v_100, v_101, r_102, r_104, r_106, r_108, r_110, r_112, r_114, v_116, r_118, r_120, r_122, r_124, at_126, h_93, h_95, h_97, h_99, h_103, h_105, h_107, h_109, h_111, h_113, h_115, h_117, h_119, h_121, h_123, h_125⟩ := gF_o1 hG k_a0
          refine va_get (D := D) (ci := 8) (v := .ref r_110) (C := RX9) (T := TX9) (N := 18) hx hb hts in9 hown hK (va_one at_126) 0 rfl rfl 10 (by decide) (hts (.fieldLink RX9 57 "RiverModel" "trial" "LRiverModel$Course;") (List.mem_of_getElem? (i := 12) rfl)) (fun _ h9 => h9) rfl dX9_pointHolds_55 ?_
          refine lv_aload_n hx hb dX9_pointHolds_58 rfl (lv_at hl 2 rfl) ?_
          refine va_get (D := D) (ci := 8) (v := .ref r_96) (C := RX9) (T := TX9) (N := 18) hx hb hts in9 hown hK (va_one at_126) 0 rfl rfl 2 (by decide) (hts (.fieldLink RX9 23 "RiverModel" "draft" "LRiverModel$Model;") (List.mem_of_getElem? (i := 1) rfl)) (fun _ h9 => h9) rfl dX9_pointHolds_59 ?_
          refine lv_aload_n hx hb dX9_pointHolds_62 rfl (lv_at hl 2 rfl) ?_
          refine va_get (D := D) (ci := 8) (v := .ref r_102) (C := RX9) (T := TX9) (N := 18) hx hb hts in9 hown hK (va_one at_126) 0 rfl rfl 6 (by decide) (hts (.fieldLink RX9 39 "RiverModel" "skyA" "LRiverModel$Sky;") (List.mem_of_getElem? (i := 22) rfl)) (fun _ h9 => h9) rfl dX9_pointHolds_63 ?_
          refine lv_iload_n hx hb dX9_pointHolds_66 rfl (lv_at hl 0 rfl) ?_
          obtain ⟨r_127, r_129, at_131, h_128, h_130⟩ := gF_o4 hG h_103
          refine ty_calli ((W.runV (As := [.int yh]) (rest := [.ref r_96, .ref r_110]) ⟨hx, hb, hml, hown, hts⟩ (s_X6_rainIn l D t cI cL cC gC gE g gW gA r_102 yh h_103) (cwV 1 hts gu_X9_pointHolds_X6_rainIn_357 rfl rfl rfl (by decide +kernel) ⟨Nat.le_of_ble_eq_true rfl, Nat.le_of_ble_eq_true rfl⟩) (tP_V hG hE at_131 rfl) rfl rfl hl.1 rfl (lv_room (Nat.le_of_ble_eq_true rfl)) dX9_pointHolds_67 ⟨Nat.le_of_ble_eq_true rfl, Nat.le_of_ble_eq_true rfl⟩)) hS (fun k h => by simp [wr0] at h) (fun r_132 H locs hp_133 hG hS o_134 => ?_)
          have at_126 := va_at.keptC at_126 o_134 k_a0 rfl
          have at_131 := va_at.keptC at_131 o_134 h_103 rfl
          refine lv_pc (pc2 := 70) rfl ?_
          refine lv_aload_n hx hb dX9_pointHolds_70 rfl (lv_at hl 2 rfl) ?_
          refine va_get (D := D) (ci := 8) (v := .ref r_102) (C := RX9) (T := TX9) (N := 18) hx hb hts in9 hown hK (va_one at_126) 0 rfl rfl 6 (by decide) (hts (.fieldLink RX9 39 "RiverModel" "skyA" "LRiverModel$Sky;") (List.mem_of_getElem? (i := 22) rfl)) (fun _ h9 => h9) rfl dX9_pointHolds_71 ?_
          refine lv_iload_n hx hb dX9_pointHolds_74 rfl (lv_at hl 0 rfl) ?_
          refine ty_calli ((W.runV (As := [.int yh]) (rest := [.int r_132, .ref r_96, .ref r_110]) ⟨hx, hb, hml, hown, hts⟩ (s_X6_tempIn l D t cI cL cC gC gE g gW gA r_102 yh h_103) (cwV 1 hts gu_X9_pointHolds_X6_tempIn_360 rfl rfl rfl (by decide +kernel) ⟨Nat.le_of_ble_eq_true rfl, Nat.le_of_ble_eq_true rfl⟩) (tP_V hG hE at_131 rfl) rfl rfl hl.1 rfl (lv_room (Nat.le_of_ble_eq_true rfl)) dX9_pointHolds_75 ⟨Nat.le_of_ble_eq_true rfl, Nat.le_of_ble_eq_true rfl⟩)) hS (fun k h => by simp [wr0] at h) (fun r_135 H locs hp_136 hG hS o_137 => ?_)
          have at_126 := va_at.keptC at_126 o_137 k_a0 rfl
          have at_131 := va_at.keptC at_131 o_137 h_103 rfl
          obtain ⟨r_138, r_140, r_142, r_144, v_146, v_147, v_148, v_149, at_151, h_139, h_141, h_143, h_145, h_150⟩ := gF_o5 hG h_111
          refine ty_callv ((W.runV (As := [.ref r_96, .int r_132, .int r_135]) (rest := []) ⟨hx, hb, hml, hown, hts⟩ (s_X0_goHour l D t cI cL cC gC gE g gW gA r_110 r_96 r_132 r_135 (by omega) h_111 h_97) (cwV 3 hts gu_X9_pointHolds_X0_goHour_363 rfl rfl rfl (by decide +kernel) ⟨Nat.le_of_ble_eq_true rfl, Nat.le_of_ble_eq_true rfl⟩) (tP_V hG hE at_151 rfl) rfl rfl hl.1 rfl (lv_room (Nat.le_of_ble_eq_true rfl)) dX9_pointHolds_78 ⟨Nat.le_of_ble_eq_true rfl, Nat.le_of_ble_eq_true rfl⟩)) hS (wrL_sub (by decide)) (fun H locs hp_153 hG hS o_154 => ?_)
          have at_126 := va_at.keptC at_126 o_154 k_a0 rfl
          have at_131 := va_at.keptC at_131 o_154 h_103 rfl
          refine lv_aload_n hx hb dX9_pointHolds_81 rfl (lv_at hl 2 rfl) ?_
          refine va_get (D := D) (ci := 8) (v := .ref r_118) (C := RX9) (T := TX9) (N := 18) hx hb hts in9 hown hK (va_one at_126) 0 rfl rfl 14 (by decide) (hts (.fieldLink RX9 74 "RiverModel" "gauges" "LRiverModel$Gauges;") (List.mem_of_getElem? (i := 17) rfl)) (fun _ h9 => h9) rfl dX9_pointHolds_82 ?_
          refine lv_aload_n hx hb dX9_pointHolds_85 rfl (lv_at hl 2 rfl) ?_
          refine lv_pc (pc2 := 86) rfl ?_
          refine va_get (D := D) (ci := 8) (v := .ref r_110) (C := RX9) (T := TX9) (N := 18) hx hb hts in9 hown hK (va_one at_126) 0 rfl rfl 10 (by decide) (hts (.fieldLink RX9 57 "RiverModel" "trial" "LRiverModel$Course;") (List.mem_of_getElem? (i := 12) rfl)) (fun _ h9 => h9) rfl dX9_pointHolds_86 ?_
          refine lv_iload_n hx hb dX9_pointHolds_89 rfl (lv_at hl 0 rfl) ?_
          obtain ⟨r_155, r_157, r_159, at_161, h_156, h_158, h_160⟩ := gF_o6 hG h_119
          refine ty_calli ((W.runV (As := [.ref r_110, .int yh]) (rest := []) ⟨hx, hb, hml, hown, hts⟩ (s_X1_agree l D t cI cL cC gC gE (g + 1) gW gA r_118 r_110 yh (by omega) h_119 h_111) (cwV 2 hts gu_X9_pointHolds_X1_agree_367 rfl rfl rfl (by decide +kernel) ⟨Nat.le_of_ble_eq_true rfl, Nat.le_of_ble_eq_true rfl⟩) (tP_V hG hE at_161 rfl) rfl rfl hl.1 rfl (lv_room (Nat.le_of_ble_eq_true rfl)) dX9_pointHolds_90 ⟨Nat.le_of_ble_eq_true rfl, Nat.le_of_ble_eq_true rfl⟩)) hS (fun k h => by simp [wr0] at h) (fun r_162 H locs hp_163 hG hS o_164 => ?_)
          have at_126 := va_at.keptC at_126 o_164 k_a0 rfl
          have at_131 := va_at.keptC at_131 o_164 h_103 rfl
          have at_161 := va_at.keptC at_161 o_164 h_119 rfl
          rcases hp_163 with rfl | rfl
          · skip
            refine lv_if_ne (tgt := 98) hx hb dX9_pointHolds_93 (by decide) (fun q => absurd rfl q) (fun _ => ?_)
            refine lv_iconst (v := 0) hx hb dX9_pointHolds_96 (by decide) ?_
            exact ty_zret hx hb hr hlk rfl (hG.weak (fun _ _ => gF_mono (by omega))) hS (by decide) dX9_pointHolds_97
          · skip
            refine lv_if_ne (tgt := 98) hx hb dX9_pointHolds_93 (by decide) (fun _ => ?_) (fun q => absurd q (by decide))
            obtain ⟨x_165, e_166⟩ : ∃ y : Int32, y = yh + Int32.ofInt 1 := ⟨_, rfl⟩
            have i_x_165 : x_165.toInt = yh.toInt + 1 := by rw [e_166, show Int32.ofInt 1 = 1 by decide]; exact (q_add (by rw [show (1 : Int32).toInt = 1 by decide]; omega) (by rw [show (1 : Int32).toInt = 1 by decide]; omega)).trans (by rw [show (1 : Int32).toInt = 1 by decide])
            refine lv_iinc (v := x_165) (lv' := [(3, .int x_165), (2, .int r_88), (0, .ref a0), (1, .int a1)]) hx hb dX9_pointHolds_98 hl (k := 0) rfl e_166.symm (by decide) rfl (fun ls hl => ?_)
            refine lv_pc (pc2 := 101) rfl ?_
            refine lv_goto (tgt := 49) hx hb dX9_pointHolds_101 (by decide) ?_
            exfalso; omega
      | succ k ih =>
        intro yh g H locs ls hk v0 v1 v2 hG hS hl
        refine (hWW _ _ _).mpr ?_
        refine lv_iload_n hx hb dX9_pointHolds_49 rfl (lv_at hl 0 rfl) ?_
        refine lv_iload_n hx hb dX9_pointHolds_50 rfl (lv_at hl 1 rfl) ?_
        refine lv_icmp_gt (tgt := 104) hx hb dX9_pointHolds_51 (by decide) (fun c_167 => ?_) (fun c_167 => ?_)
        · skip
          have c_167 : r_88.toInt < yh.toInt := q_lt c_167
          exact (hWW _ _ _).mp (kx yh g H locs ls (by omega) (by omega) (by omega) hG hS (lv_sub hl [0, 1, 2, 3] rfl))
        · skip
          have c_167 : yh.toInt ≤ r_88.toInt := q_nlt c_167
          refine lv_aload_n hx hb dX9_pointHolds_54 rfl (lv_at hl 2 rfl) ?_
          obtain ⟨r_168, r_170, r_172, r_174, v_176, v_177, r_178, r_180, r_182, r_184, r_186, r_188, r_190, v_192, r_194, r_196, r_198, r_200, at_202, h_169, h_171, h_173, h_175, h_179, h_181, h_183, h_185, h_187, h_189, h_191, h_193, h_195, h_197, h_199, h_201⟩ := gF_o1 hG k_a0
          refine va_get (D := D) (ci := 8) (v := .ref r_186) (C := RX9) (T := TX9) (N := 18) hx hb hts in9 hown hK (va_one at_202) 0 rfl rfl 10 (by decide) (hts (.fieldLink RX9 57 "RiverModel" "trial" "LRiverModel$Course;") (List.mem_of_getElem? (i := 12) rfl)) (fun _ h9 => h9) rfl dX9_pointHolds_55 ?_
          refine lv_aload_n hx hb dX9_pointHolds_58 rfl (lv_at hl 2 rfl) ?_
          refine va_get (D := D) (ci := 8) (v := .ref r_172) (C := RX9) (T := TX9) (N := 18) hx hb hts in9 hown hK (va_one at_202) 0 rfl rfl 2 (by decide) (hts (.fieldLink RX9 23 "RiverModel" "draft" "LRiverModel$Model;") (List.mem_of_getElem? (i := 1) rfl)) (fun _ h9 => h9) rfl dX9_pointHolds_59 ?_
          refine lv_pc (pc2 := 62) rfl ?_
          refine lv_aload_n hx hb dX9_pointHolds_62 rfl (lv_at hl 2 rfl) ?_
          refine va_get (D := D) (ci := 8) (v := .ref r_178) (C := RX9) (T := TX9) (N := 18) hx hb hts in9 hown hK (va_one at_202) 0 rfl rfl 6 (by decide) (hts (.fieldLink RX9 39 "RiverModel" "skyA" "LRiverModel$Sky;") (List.mem_of_getElem? (i := 22) rfl)) (fun _ h9 => h9) rfl dX9_pointHolds_63 ?_
          refine lv_iload_n hx hb dX9_pointHolds_66 rfl (lv_at hl 0 rfl) ?_
          obtain ⟨r_203, r_205, at_207, h_204, h_206⟩ := gF_o4 hG h_179
          refine ty_calli ((W.runV (As := [.int yh]) (rest := [.ref r_172, .ref r_186]) ⟨hx, hb, hml, hown, hts⟩ (s_X6_rainIn l D t cI cL cC gC gE g gW gA r_178 yh h_179) (cwV 1 hts gu_X9_pointHolds_X6_rainIn_357 rfl rfl rfl (by decide +kernel) ⟨Nat.le_of_ble_eq_true rfl, Nat.le_of_ble_eq_true rfl⟩) (tP_V hG hE at_207 rfl) rfl rfl hl.1 rfl (lv_room (Nat.le_of_ble_eq_true rfl)) dX9_pointHolds_67 ⟨Nat.le_of_ble_eq_true rfl, Nat.le_of_ble_eq_true rfl⟩)) hS (fun k h => by simp [wr0] at h) (fun r_208 H locs hp_209 hG hS o_210 => ?_)
          have at_202 := va_at.keptC at_202 o_210 k_a0 rfl
          have at_207 := va_at.keptC at_207 o_210 h_179 rfl
          refine lv_aload_n hx hb dX9_pointHolds_70 rfl (lv_at hl 2 rfl) ?_
          refine va_get (D := D) (ci := 8) (v := .ref r_178) (C := RX9) (T := TX9) (N := 18) hx hb hts in9 hown hK (va_one at_202) 0 rfl rfl 6 (by decide) (hts (.fieldLink RX9 39 "RiverModel" "skyA" "LRiverModel$Sky;") (List.mem_of_getElem? (i := 22) rfl)) (fun _ h9 => h9) rfl dX9_pointHolds_71 ?_
          refine lv_iload_n hx hb dX9_pointHolds_74 rfl (lv_at hl 0 rfl) ?_
          refine ty_calli ((W.runV (As := [.int yh]) (rest := [.int r_208, .ref r_172, .ref r_186]) ⟨hx, hb, hml, hown, hts⟩ (s_X6_tempIn l D t cI cL cC gC gE g gW gA r_178 yh h_179) (cwV 1 hts gu_X9_pointHolds_X6_tempIn_360 rfl rfl rfl (by decide +kernel) ⟨Nat.le_of_ble_eq_true rfl, Nat.le_of_ble_eq_true rfl⟩) (tP_V hG hE at_207 rfl) rfl rfl hl.1 rfl (lv_room (Nat.le_of_ble_eq_true rfl)) dX9_pointHolds_75 ⟨Nat.le_of_ble_eq_true rfl, Nat.le_of_ble_eq_true rfl⟩)) hS (fun k h => by simp [wr0] at h) (fun r_211 H locs hp_212 hG hS o_213 => ?_)
          have at_202 := va_at.keptC at_202 o_213 k_a0 rfl
          have at_207 := va_at.keptC at_207 o_213 h_179 rfl
          refine lv_pc (pc2 := 78) rfl ?_
          obtain ⟨r_214, r_216, r_218, r_220, v_222, v_223, v_224, v_225, at_227, h_215, h_217, h_219, h_221, h_226⟩ := gF_o5 hG h_187
          refine ty_callv ((W.runV (As := [.ref r_172, .int r_208, .int r_211]) (rest := []) ⟨hx, hb, hml, hown, hts⟩ (s_X0_goHour l D t cI cL cC gC gE g gW gA r_186 r_172 r_208 r_211 (by omega) h_187 h_173) (cwV 3 hts gu_X9_pointHolds_X0_goHour_363 rfl rfl rfl (by decide +kernel) ⟨Nat.le_of_ble_eq_true rfl, Nat.le_of_ble_eq_true rfl⟩) (tP_V hG hE at_227 rfl) rfl rfl hl.1 rfl (lv_room (Nat.le_of_ble_eq_true rfl)) dX9_pointHolds_78 ⟨Nat.le_of_ble_eq_true rfl, Nat.le_of_ble_eq_true rfl⟩)) hS (wrL_sub (by decide)) (fun H locs hp_229 hG hS o_230 => ?_)
          have at_202 := va_at.keptC at_202 o_230 k_a0 rfl
          have at_207 := va_at.keptC at_207 o_230 h_179 rfl
          refine lv_aload_n hx hb dX9_pointHolds_81 rfl (lv_at hl 2 rfl) ?_
          refine va_get (D := D) (ci := 8) (v := .ref r_194) (C := RX9) (T := TX9) (N := 18) hx hb hts in9 hown hK (va_one at_202) 0 rfl rfl 14 (by decide) (hts (.fieldLink RX9 74 "RiverModel" "gauges" "LRiverModel$Gauges;") (List.mem_of_getElem? (i := 17) rfl)) (fun _ h9 => h9) rfl dX9_pointHolds_82 ?_
          refine lv_aload_n hx hb dX9_pointHolds_85 rfl (lv_at hl 2 rfl) ?_
          refine va_get (D := D) (ci := 8) (v := .ref r_186) (C := RX9) (T := TX9) (N := 18) hx hb hts in9 hown hK (va_one at_202) 0 rfl rfl 10 (by decide) (hts (.fieldLink RX9 57 "RiverModel" "trial" "LRiverModel$Course;") (List.mem_of_getElem? (i := 12) rfl)) (fun _ h9 => h9) rfl dX9_pointHolds_86 ?_
          refine lv_iload_n hx hb dX9_pointHolds_89 rfl (lv_at hl 0 rfl) ?_
          obtain ⟨r_231, r_233, r_235, at_237, h_232, h_234, h_236⟩ := gF_o6 hG h_195
          refine ty_calli ((W.runV (As := [.ref r_186, .int yh]) (rest := []) ⟨hx, hb, hml, hown, hts⟩ (s_X1_agree l D t cI cL cC gC gE (g + 1) gW gA r_194 r_186 yh (by omega) h_195 h_187) (cwV 2 hts gu_X9_pointHolds_X1_agree_367 rfl rfl rfl (by decide +kernel) ⟨Nat.le_of_ble_eq_true rfl, Nat.le_of_ble_eq_true rfl⟩) (tP_V hG hE at_237 rfl) rfl rfl hl.1 rfl (lv_room (Nat.le_of_ble_eq_true rfl)) dX9_pointHolds_90 ⟨Nat.le_of_ble_eq_true rfl, Nat.le_of_ble_eq_true rfl⟩)) hS (fun k h => by simp [wr0] at h) (fun r_238 H locs hp_239 hG hS o_240 => ?_)
          have at_202 := va_at.keptC at_202 o_240 k_a0 rfl
          have at_207 := va_at.keptC at_207 o_240 h_179 rfl
          have at_237 := va_at.keptC at_237 o_240 h_195 rfl
          rcases hp_239 with rfl | rfl
          · skip
            refine lv_if_ne (tgt := 98) hx hb dX9_pointHolds_93 (by decide) (fun q => absurd rfl q) (fun _ => ?_)
            refine lv_pc (pc2 := 96) rfl ?_
            refine lv_iconst (v := 0) hx hb dX9_pointHolds_96 (by decide) ?_
            exact ty_zret hx hb hr hlk rfl (hG.weak (fun _ _ => gF_mono (by omega))) hS (by decide) dX9_pointHolds_97
          · skip
            refine lv_if_ne (tgt := 98) hx hb dX9_pointHolds_93 (by decide) (fun _ => ?_) (fun q => absurd q (by decide))
            obtain ⟨x_241, e_242⟩ : ∃ y : Int32, y = yh + Int32.ofInt 1 := ⟨_, rfl⟩
            have i_x_241 : x_241.toInt = yh.toInt + 1 := by rw [e_242, show Int32.ofInt 1 = 1 by decide]; exact (q_add (by rw [show (1 : Int32).toInt = 1 by decide]; omega) (by rw [show (1 : Int32).toInt = 1 by decide]; omega)).trans (by rw [show (1 : Int32).toInt = 1 by decide])
            refine lv_iinc (v := x_241) (lv' := [(3, .int x_241), (2, .int r_88), (0, .ref a0), (1, .int a1)]) hx hb dX9_pointHolds_98 hl (k := 0) rfl e_242.symm (by decide) rfl (fun ls hl => ?_)
            refine lv_goto (tgt := 49) hx hb dX9_pointHolds_101 (by decide) ?_
            exact (hWW _ _ _).mp (ih x_241 (g + 1) H locs ls (by omega) (by omega) (by omega) (by omega) hG hS (lv_sub hl [0, 1, 2, 3] rfl))
    have hz_yh : (0 : Int32).toInt = 0 := by decide
    exact loop (96 - 0 : Int).toNat 0 G H locs ls (by omega) (by omega) (by omega) (by omega) hG hS (lv_sub hl [0, 1, 2, 3] rfl)

def uX9_holdingPoint : List Cond := .code yX9_holdingPoint cX9_holdingPoint 5 (some .int) :: ([.fieldLink RX9 81 "RiverModel" "knobs" "LRiverModel$Knobs;", .methodLink RX9 239 yX3_points, .instanceMethod yX3_points, .selects RX3 yX3_points yX3_points, .initialized RX3, .methodLink RX9 243 yX9_pointHolds, .instanceMethod yX9_pointHolds, .selects RX9 yX9_pointHolds yX9_pointHolds, .initialized RX9, .code yX3_points cX3_points 1 (some .int), .methodLink RX3 40 yX3_pointsOf, .instanceMethod yX3_pointsOf, .selects RX3 yX3_pointsOf yX3_pointsOf, .code yX3_pointsOf cX3_pointsOf 2 (some .int), .methodLink RX3 37 yX3_isSet, .instanceMethod yX3_isSet, .selects RX3 yX3_isSet yX3_isSet, .fieldLink RX3 24 "RiverModel$Knobs" "manys" "[I", .code yX3_isSet cX3_isSet 2 (some .boolean), .code yX9_pointHolds cX9_pointHolds 4 (some .boolean), .fieldLink RX9 23 "RiverModel" "draft" "LRiverModel$Model;", .fieldLink RX9 19 "RiverModel" "model" "LRiverModel$Model;", .methodLink RX9 316 yX4_copyFrom, .instanceMethod yX4_copyFrom, .selects RX4 yX4_copyFrom yX4_copyFrom, .initialized RX4, .methodLink RX9 350 yX3_lay, .instanceMethod yX3_lay, .selects RX3 yX3_lay yX3_lay, .fieldLink RX9 57 "RiverModel" "trial" "LRiverModel$Course;", .methodLink RX9 147 yX0_begin, .instanceMethod yX0_begin, .selects RX0 yX0_begin yX0_begin, .initialized RX0, .fieldLink RX9 74 "RiverModel" "gauges" "LRiverModel$Gauges;", .methodLink RX9 354 yX1_lastSeen, .instanceMethod yX1_lastSeen, .selects RX1 yX1_lastSeen yX1_lastSeen, .initialized RX1, .fieldLink RX9 39 "RiverModel" "skyA" "LRiverModel$Sky;", .methodLink RX9 357 yX6_rainIn, .instanceMethod yX6_rainIn, .selects RX6 yX6_rainIn yX6_rainIn, .initialized RX6, .methodLink RX9 360 yX6_tempIn, .instanceMethod yX6_tempIn, .selects RX6 yX6_tempIn yX6_tempIn, .methodLink RX9 363 yX0_goHour, .instanceMethod yX0_goHour, .selects RX0 yX0_goHour yX0_goHour, .methodLink RX9 367 yX1_agree, .instanceMethod yX1_agree, .selects RX1 yX1_agree yX1_agree, .code yX4_copyFrom cX4_copyFrom 2 none, .fieldLink RX4 9 "RiverModel$Model" "cells" "[I", .methodLink RX4 37 arraycopyName, .native arraycopyName, .static arraycopyName, .initialized "java/lang/System", .fieldLink RX4 15 "RiverModel$Model" "storeItems" "[I", .fieldLink RX4 18 "RiverModel$Model" "gateItems" "[I", .fieldLink RX4 21 "RiverModel$Model" "many" "I", .fieldLink RX4 25 "RiverModel$Model" "stores" "I", .fieldLink RX4 28 "RiverModel$Model" "gates" "I", .code yX3_lay cX3_lay 4 (some .boolean), .fieldLink RX3 9 "RiverModel$Knobs" "items" "[I", .methodLink RX3 63 yX4_isItemAsTold, .instanceMethod yX4_isItemAsTold, .selects RX4 yX4_isItemAsTold yX4_isItemAsTold, .fieldLink RX3 15 "RiverModel$Knobs" "numbers" "[I", .methodLink RX3 50 yX4_hasNumber, .instanceMethod yX4_hasNumber, .selects RX4 yX4_hasNumber yX4_hasNumber, .methodLink RX3 56 yX3_numberAt, .instanceMethod yX3_numberAt, .selects RX3 yX3_numberAt yX3_numberAt, .methodLink RX3 59 yX4_putCell, .instanceMethod yX4_putCell, .selects RX4 yX4_putCell yX4_putCell, .code yX4_isItemAsTold cX4_isItemAsTold 2 (some .boolean), .methodLink RX4 73 yX4_cell, .instanceMethod yX4_cell, .selects RX4 yX4_cell yX4_cell, .methodLink RX4 77 yX2_areNumbersAsTold, .static yX2_areNumbersAsTold, .initialized RX2, .code yX4_cell cX4_cell 3 (some .int), .code yX2_areNumbersAsTold cX2_areNumbersAsTold 4 (some .boolean), .methodLink RX2 10 yX2_isUpTo, .static yX2_isUpTo, .constant RX2 9 (1000000), .code yX2_isUpTo cX2_isUpTo 2 (some .boolean), .code yX4_hasNumber cX4_hasNumber 3 (some .boolean), .methodLink RX4 86 yX2_numbersOf, .static yX2_numbersOf, .code yX2_numbersOf cX2_numbersOf 1 (some .int), .code yX3_numberAt cX3_numberAt 4 (some .int), .static yX9_isNoKnob, .methodLink RX3 44 Lib.Math.max.name, .static Lib.Math.max.name, .initialized "java/lang/Math", .code Lib.Math.max.name Lib.Math.max.code 2 (some .int), .fieldLink RX3 18 "RiverModel$Knobs" "froms" "[I", .fieldLink RX3 21 "RiverModel$Knobs" "steps" "[I", .code yX9_isNoKnob cX9_isNoKnob 1 (some .boolean), .code yX4_putCell cX4_putCell 4 none, .static yX9_isNoItem, .static yX9_isOutside, .code yX9_isNoItem cX9_isNoItem 1 (some .boolean), .code yX9_isOutside cX9_isOutside 3 (some .boolean), .code yX0_begin cX0_begin 3 none, .fieldLink RX0 15 "RiverModel$Course" "moved" "[J", .methodLink RX0 45 yJ7_fill_d0a16, .static yJ7_fill_d0a16, .initialized RJ7, .fieldLink RX0 18 "RiverModel$Course" "openings" "[I", .methodLink RX0 51 yJ7_fill_53178, .static yJ7_fill_53178, .fieldLink RX0 22 "RiverModel$Course" "due" "[J", .fieldLink RX0 25 "RiverModel$Course" "rained" "J", .fieldLink RX0 29 "RiverModel$Course" "air" "J", .fieldLink RX0 32 "RiverModel$Course" "sea" "J", .fieldLink RX0 35 "RiverModel$Course" "hours" "I", .fieldLink RX0 9 "RiverModel$Course" "held" "[J", .methodLink RX0 39 yX4_startOf, .instanceMethod yX4_startOf, .selects RX4 yX4_startOf yX4_startOf, .code yJ7_fill_d0a16 cJ7_fill_d0a16 5 none, .code yJ7_fill_53178 cJ7_fill_53178 4 none, .code yX4_startOf cX4_startOf 2 (some .int), .methodLink RX4 66 yX4_hasStore, .instanceMethod yX4_hasStore, .selects RX4 yX4_hasStore yX4_hasStore, .code yX4_hasStore cX4_hasStore 2 (some .boolean), .code yX1_lastSeen cX1_lastSeen 3 (some .int), .fieldLink RX1 18 "RiverModel$Gauges" "seen" "[I", .methodLink RX1 67 Lib.Math.max.name, .code yX6_rainIn cX6_rainIn 2 (some .int), .fieldLink RX6 9 "RiverModel$Sky" "rains" "[I", .code yX6_tempIn cX6_tempIn 2 (some .int), .fieldLink RX6 15 "RiverModel$Sky" "temps" "[I", .code yX0_goHour cX0_goHour 7 none, .methodLink RX0 72 yX0_bringDue, .instanceMethod yX0_bringDue, .selects RX0 yX0_bringDue yX0_bringDue, .fieldLink RX0 75 "RiverModel$Model" "many" "I", .methodLink RX0 78 yX0_amountOf, .instanceMethod yX0_amountOf, .selects RX0 yX0_amountOf yX0_amountOf, .methodLink RX0 82 yX0_move, .instanceMethod yX0_move, .selects RX0 yX0_move yX0_move, .code yX0_bringDue cX0_bringDue 3 none, .code yX0_amountOf cX0_amountOf 11 (some .long), .methodLink RX0 86 yX4_cell, .static yX9_isNoStore, .methodLink RX0 110 yX4_gateOf, .instanceMethod yX4_gateOf, .selects RX4 yX4_gateOf yX4_gateOf, .methodLink RX0 113 yX0_openingOf, .instanceMethod yX0_openingOf, .selects RX0 yX0_openingOf yX0_openingOf, .methodLink RX0 107 Lib.MathLoose.min_long.x, .static Lib.MathLoose.min_long.x, .code Lib.MathLoose.min_long.x Lib.MathLoose.min_long.code 4 (some .long), .methodLink RX0 94 yX0_leakOf, .static yX0_leakOf, .constantLong RX0 117 (100), .methodLink RX0 98 yX4_capacityOf, .instanceMethod yX4_capacityOf, .selects RX4 yX4_capacityOf yX4_capacityOf, .methodLink RX0 101 Lib.MathLoose.max_long.x, .static Lib.MathLoose.max_long.x, .code Lib.MathLoose.max_long.x Lib.MathLoose.max_long.code 4 (some .long), .constantLong RX0 119 (10), .code yX9_isNoStore cX9_isNoStore 1 (some .boolean), .code yX4_gateOf cX4_gateOf 3 (some .int), .code yX0_openingOf cX0_openingOf 2 (some .long), .static yX9_isNoGate, .code yX9_isNoGate cX9_isNoGate 1 (some .boolean), .code yX0_leakOf cX0_leakOf 8 (some .long), .code yX4_capacityOf cX4_capacityOf 2 (some .int), .code yX0_move cX0_move 8 none, .methodLink RX0 124 yX0_send, .instanceMethod yX0_send, .selects RX0 yX0_send yX0_send, .code yX0_send cX0_send 5 none, .code yX1_agree cX1_agree 5 (some .boolean), .methodLink RX1 57 yX1_reading, .instanceMethod yX1_reading, .selects RX1 yX1_reading yX1_reading, .methodLink RX1 61 Lib.MathLoose.abs_long.x, .static Lib.MathLoose.abs_long.x, .code Lib.MathLoose.abs_long.x Lib.MathLoose.abs_long.code 2 (some .long), .fieldLink RX1 21 "RiverModel$Gauges" "mayBeOff" "I", .code yX1_reading cX1_reading 4 (some .long), .methodLink RX1 35 yX1_isSet, .instanceMethod yX1_isSet, .selects RX1 yX1_isSet yX1_isSet, .fieldLink RX1 15 "RiverModel$Gauges" "places" "[I", .fieldLink RX1 9 "RiverModel$Gauges" "whats" "[I", .fieldLink RX1 50 "RiverModel$Course" "held" "[J", .fieldLink RX1 41 "RiverModel$Course" "moved" "[J", .code yX1_isSet cX1_isSet 2 (some .boolean)] ++ wsX90 ++ wsX30 ++ wsX40 ++ wsX00 ++ wsX10 ++ wsX60)
set_option maxRecDepth 20000 in
theorem gu_X9_holdingPoint_X3_points_239 : GoodIn uX9_holdingPoint (wsV RX9 239 RX3 yX3_points uX3_points) := goodIn_r _ [2, 3, 4, 5, 10, 11, 12, 13, 5, 14, 15, 16, 17, 18, 19, 223, 224, 225, 226, 227] rfl (by decide +kernel)
set_option maxRecDepth 20000 in
theorem gu_X9_holdingPoint_X9_pointHolds_243 : GoodIn uX9_holdingPoint (wsV RX9 243 RX9 yX9_pointHolds uX9_pointHolds) := goodIn_r _ [6, 7, 8, 9, 20, 21, 22, 23, 24, 25, 26, 1, 27, 28, 29, 5, 30, 31, 32, 33, 34, 35, 36, 37, 38, 39, 40, 41, 42, 43, 44, 45, 46, 47, 48, 49, 50, 51, 52, 53, 54, 55, 56, 57, 58, 59, 60, 61, 62, 63, 64, 65, 15, 16, 17, 66, 67, 68, 69, 70, 71, 72, 73, 74, 75, 76, 77, 78, 79, 19, 18, 80, 81, 82, 83, 84, 85, 86, 87, 88, 89, 90, 91, 92, 93, 94, 95, 96, 97, 9, 98, 11, 12, 13, 99, 100, 101, 102, 103, 104, 105, 14, 106, 107, 108, 109, 110, 111, 112, 113, 114, 115, 116, 117, 118, 119, 120, 121, 122, 123, 124, 125, 126, 127, 128, 129, 130, 131, 132, 133, 134, 135, 136, 137, 138, 139, 140, 141, 142, 143, 144, 145, 146, 147, 148, 149, 150, 151, 152, 153, 154, 155, 156, 157, 158, 159, 160, 161, 162, 163, 164, 165, 166, 167, 168, 169, 170, 171, 172, 173, 174, 175, 176, 177, 178, 179, 180, 181, 182, 183, 184, 185, 186, 187, 188, 189, 190, 191, 192, 193, 194, 195, 196, 197, 198, 199, 200, 201, 202, 203, 204, 205, 206, 207, 208, 209, 210, 211, 212, 213, 214, 215, 216, 217, 218, 219, 220, 221, 222, 228, 229, 230, 231, 232, 233, 223, 224, 225, 226, 227, 234, 235, 236, 237, 238, 239, 240, 241, 242, 243, 244, 245, 246, 247] rfl (by decide +kernel)
set_option maxHeartbeats 4000000 in
set_option maxRecDepth 100000 in
theorem s_X9_holdingPoint (l : Launch) (D : va_G) (t : Nat → Nat) (cI cL cC : ClassId) (gC : Int32) (gE : Int32) (G : Nat) (gW : Nat → Int32) (gA : Nat → Int32) (a0 : Nat) (a1 : Int32) (hGb : G ≤ 150000000) (k_a0 : t a0 = 1) : tM l yX9_holdingPoint uX9_holdingPoint 5 122 D (gF cI cL cC gC gE G gW gA) (gF cI cL cC gC gE (G + 24576) gW gA) t cI cL cC [.ref a0, .int a1] wrAll (pI (fun r => True)) := by
  refine tM.ofW (cc := cX9_holdingPoint) (maxL := 5) (ret := (some .int)) (by decide) rfl (Nat.le_of_ble_eq_true rfl) ?_
  intro p e s m below meth c hx hb hr hml hown hts hlk H locs hG hK hE hS ls hl
  have hl : lv_has ls 5 [(0, .ref a0), (1, .int a1)] := hl
  have in9 : ∀ w ∈ wsX90, w ∈ uX9_holdingPoint := fun w h => List.mem_cons_of_mem _ (List.mem_append_left _ (List.mem_append_left _ (List.mem_append_left _ (List.mem_append_left _ (List.mem_append_left _ (List.mem_append_right _ h))))))
  refine lv_iconst (v := 0) hx hb dX9_holdingPoint_0 (by decide) ?_
  refine lv_istore_n (lv' := [(2, .int 0), (0, .ref a0), (1, .int a1)]) hx hb dX9_holdingPoint_1 rfl hl (by decide) rfl (fun ls hl => ?_)
  refine lv_aload_n hx hb dX9_holdingPoint_2 rfl (lv_at hl 1 rfl) ?_
  obtain ⟨r_1, r_3, r_5, r_7, v_9, v_10, r_11, r_13, r_15, r_17, r_19, r_21, r_23, v_25, r_27, r_29, r_31, r_33, at_35, h_2, h_4, h_6, h_8, h_12, h_14, h_16, h_18, h_20, h_22, h_24, h_26, h_28, h_30, h_32, h_34⟩ := gF_o1 hG k_a0
  refine va_get (D := D) (ci := 8) (v := .ref r_29) (C := RX9) (T := TX9) (N := 18) hx hb hts in9 hown hK (va_one at_35) 0 rfl rfl 15 (by decide) (hts (.fieldLink RX9 81 "RiverModel" "knobs" "LRiverModel$Knobs;") (List.mem_of_getElem? (i := 1) rfl)) (fun _ h9 => h9) rfl dX9_holdingPoint_3 ?_
  obtain ⟨r_36, r_38, r_40, r_42, r_44, at_46, h_37, h_39, h_41, h_43, h_45⟩ := gF_o7 hG h_30
  refine ty_calli ((W.runV (As := []) (rest := []) ⟨hx, hb, hml, hown, hts⟩ (s_X3_points l D t cI cL cC gC gE G gW gA r_29 h_30) (cwV 0 hts gu_X9_holdingPoint_X3_points_239 rfl rfl rfl (by decide +kernel) ⟨Nat.le_of_ble_eq_true rfl, Nat.le_of_ble_eq_true rfl⟩) (tP_V hG hE at_46 rfl) rfl rfl hl.1 rfl (lv_room (Nat.le_of_ble_eq_true rfl)) dX9_holdingPoint_6 ⟨Nat.le_of_ble_eq_true rfl, Nat.le_of_ble_eq_true rfl⟩)) hS (fun k h => by simp [wr0] at h) (fun r_47 H locs hp_48 hG hS o_49 => ?_)
  have at_35 := va_at.keptC at_35 o_49 k_a0 rfl
  have at_46 := va_at.keptC at_46 o_49 h_30 rfl
  have hp_48 := hp_48
  refine lv_istore_n (lv' := [(3, .int r_47), (2, .int 0), (0, .ref a0), (1, .int a1)]) hx hb dX9_holdingPoint_9 rfl hl (by decide) rfl (fun ls hl => ?_)
  refine lv_iconst (v := 0) hx hb dX9_holdingPoint_10 (by decide) ?_
  refine lv_pc (pc2 := 11) rfl ?_
  refine lv_istore (lv' := [(4, .int 0), (3, .int r_47), (2, .int 0), (0, .ref a0), (1, .int a1)]) hx hb dX9_holdingPoint_11 hl (by decide) rfl (fun ls hl => ?_)
  refine lv_pc (pc2 := 13) rfl ?_
  refine lp_gen (fun WW hWW => ?_)
  have kx : ∀ (yp : Int32) (yb : Int32) (g : Nat) (H1 : Heap) (locs1 : List Loc) (ls1 : Array Slot), 0 ≤ yp.toInt → yp.toInt ≤ 256 → (g : Int) + 96 * (256 - yp.toInt) ≤ (G : Int) + 24576 → tG D (gF cI cL cC gC gE g gW gA) t H1 → tF t wrAll s.heap H1 locs1 → lv_has ls1 5 [(4, .int yp), (3, .int r_47), (2, .int yb), (0, .ref a0), (1, .int a1)] → WW H1 locs1 (F0 m 45 ls1 []) := by
    intro yp yb g H locs ls v0 v1 v2 hG hS hl
    refine (hWW _ _ _).mpr ?_
    refine lv_bipush (v := (-4)) hx hb dX9_holdingPoint_45 (by decide) ?_
    exact ty_iret hx hb hr hlk (hG.weak (fun _ _ => gF_mono (by omega))) hS True.intro dX9_holdingPoint_47
  have loop : ∀ (k : Nat) (yp : Int32) (yb : Int32) (g : Nat) (H1 : Heap) (locs1 : List Loc) (ls1 : Array Slot), 256 - yp.toInt ≤ (k : Int) → 0 ≤ yp.toInt → yp.toInt ≤ 256 → (g : Int) + 96 * (256 - yp.toInt) ≤ (G : Int) + 24576 → tG D (gF cI cL cC gC gE g gW gA) t H1 → tF t wrAll s.heap H1 locs1 → lv_has ls1 5 [(4, .int yp), (3, .int r_47), (2, .int yb), (0, .ref a0), (1, .int a1)] → WW H1 locs1 (F0 m 13 ls1 []) := by
    intro k
    induction k with
    | zero =>
      intro yp yb g H locs ls hk v0 v1 v2 hG hS hl
      refine (hWW _ _ _).mpr ?_
      refine lv_iload hx hb dX9_holdingPoint_13 (lv_at hl 0 rfl) ?_
      refine lv_iload_n hx hb dX9_holdingPoint_15 rfl (lv_at hl 1 rfl) ?_
      refine lv_icmp_ge (tgt := 45) hx hb dX9_holdingPoint_16 (by decide) (fun c_50 => ?_) (fun c_50 => ?_)
      · skip
        have c_50 : r_47.toInt ≤ yp.toInt := q_le c_50
        exact (hWW _ _ _).mp (kx yp yb g H locs ls (by omega) (by omega) (by omega) hG hS (lv_sub hl [0, 1, 2, 3, 4] rfl))
      · skip
        have c_50 : yp.toInt < r_47.toInt := q_nle c_50
        refine lv_aload_n hx hb dX9_holdingPoint_19 rfl (lv_at hl 3 rfl) ?_
        refine lv_iload hx hb dX9_holdingPoint_20 (lv_at hl 0 rfl) ?_
        refine lv_pc (pc2 := 22) rfl ?_
        obtain ⟨r_51, r_53, r_55, r_57, v_59, v_60, r_61, r_63, r_65, r_67, r_69, r_71, r_73, v_75, r_77, r_79, r_81, r_83, at_85, h_52, h_54, h_56, h_58, h_62, h_64, h_66, h_68, h_70, h_72, h_74, h_76, h_78, h_80, h_82, h_84⟩ := gF_o1 hG k_a0
        refine ty_calli ((W.runV (As := [.int yp]) (rest := []) ⟨hx, hb, hml, hown, hts⟩ (s_X9_pointHolds l D t cI cL cC gC gE g gW gA a0 yp (by omega) k_a0) (cwV 1 hts gu_X9_holdingPoint_X9_pointHolds_243 rfl rfl rfl (by decide +kernel) ⟨Nat.le_of_ble_eq_true rfl, Nat.le_of_ble_eq_true rfl⟩) (tP_V hG hE at_85 rfl) rfl rfl hl.1 rfl (lv_room (Nat.le_of_ble_eq_true rfl)) dX9_holdingPoint_22 ⟨Nat.le_of_ble_eq_true rfl, Nat.le_of_ble_eq_true rfl⟩)) hS (fun _ h => h) (fun r_86 H locs hp_87 hG hS o_88 => ?_)
        rcases hp_87 with rfl | rfl
        · skip
          refine lv_if_eq (tgt := 39) hx hb dX9_holdingPoint_25 (by decide) (fun _ => ?_) (fun q => absurd (by decide) q)
          obtain ⟨x_89, e_90⟩ : ∃ y : Int32, y = yp + Int32.ofInt 1 := ⟨_, rfl⟩
          have i_x_89 : x_89.toInt = yp.toInt + 1 := by rw [e_90, show Int32.ofInt 1 = 1 by decide]; exact (q_add (by rw [show (1 : Int32).toInt = 1 by decide]; omega) (by rw [show (1 : Int32).toInt = 1 by decide]; omega)).trans (by rw [show (1 : Int32).toInt = 1 by decide])
          refine lv_iinc (v := x_89) (lv' := [(4, .int x_89), (3, .int r_47), (2, .int yb), (0, .ref a0), (1, .int a1)]) hx hb dX9_holdingPoint_39 hl (k := 0) rfl e_90.symm (by decide) rfl (fun ls hl => ?_)
          refine lv_goto (tgt := 13) hx hb dX9_holdingPoint_42 (by decide) ?_
          exfalso; omega
        · skip
          refine lv_if_eq (tgt := 39) hx hb dX9_holdingPoint_25 (by decide) (fun q => absurd q (by decide)) (fun _ => ?_)
          refine lv_iload_n hx hb dX9_holdingPoint_28 rfl (lv_at hl 2 rfl) ?_
          refine lv_iload_n hx hb dX9_holdingPoint_29 rfl (lv_at hl 4 rfl) ?_
          refine lv_icmp_ne (tgt := 36) hx hb dX9_holdingPoint_30 (by decide) (fun c_91 => ?_) (fun c_91 => ?_)
          · skip
            have c_91 : yb.toInt ≠ a1.toInt := q_ne c_91
            refine lv_pc (pc2 := 36) rfl ?_
            obtain ⟨x_92, e_93⟩ : ∃ y : Int32, y = yb + Int32.ofInt 1 := ⟨_, rfl⟩
            refine lv_iinc (v := x_92) (lv' := [(2, .int x_92), (4, .int yp), (3, .int r_47), (0, .ref a0), (1, .int a1)]) hx hb dX9_holdingPoint_36 hl (k := 2) rfl e_93.symm (by decide) rfl (fun ls hl => ?_)
            obtain ⟨x_94, e_95⟩ : ∃ y : Int32, y = yp + Int32.ofInt 1 := ⟨_, rfl⟩
            have i_x_94 : x_94.toInt = yp.toInt + 1 := by rw [e_95, show Int32.ofInt 1 = 1 by decide]; exact (q_add (by rw [show (1 : Int32).toInt = 1 by decide]; omega) (by rw [show (1 : Int32).toInt = 1 by decide]; omega)).trans (by rw [show (1 : Int32).toInt = 1 by decide])
            refine lv_iinc (v := x_94) (lv' := [(4, .int x_94), (2, .int x_92), (3, .int r_47), (0, .ref a0), (1, .int a1)]) hx hb dX9_holdingPoint_39 hl (k := 1) rfl e_95.symm (by decide) rfl (fun ls hl => ?_)
            refine lv_goto (tgt := 13) hx hb dX9_holdingPoint_42 (by decide) ?_
            exfalso; omega
          · skip
            have c_91 : yb.toInt = a1.toInt := q_eq c_91
            refine lv_iload hx hb dX9_holdingPoint_33 (lv_at hl 0 rfl) ?_
            exact ty_iret hx hb hr hlk (hG.weak (fun _ _ => gF_mono (by omega))) hS True.intro dX9_holdingPoint_35
    | succ k ih =>
      intro yp yb g H locs ls hk v0 v1 v2 hG hS hl
      refine (hWW _ _ _).mpr ?_
      refine lv_iload hx hb dX9_holdingPoint_13 (lv_at hl 0 rfl) ?_
      refine lv_iload_n hx hb dX9_holdingPoint_15 rfl (lv_at hl 1 rfl) ?_
      refine lv_icmp_ge (tgt := 45) hx hb dX9_holdingPoint_16 (by decide) (fun c_96 => ?_) (fun c_96 => ?_)
      · skip
        have c_96 : r_47.toInt ≤ yp.toInt := q_le c_96
        exact (hWW _ _ _).mp (kx yp yb g H locs ls (by omega) (by omega) (by omega) hG hS (lv_sub hl [0, 1, 2, 3, 4] rfl))
      · skip
        have c_96 : yp.toInt < r_47.toInt := q_nle c_96
        refine lv_pc (pc2 := 19) rfl ?_
        refine lv_aload_n hx hb dX9_holdingPoint_19 rfl (lv_at hl 3 rfl) ?_
        refine lv_iload hx hb dX9_holdingPoint_20 (lv_at hl 0 rfl) ?_
        obtain ⟨r_97, r_99, r_101, r_103, v_105, v_106, r_107, r_109, r_111, r_113, r_115, r_117, r_119, v_121, r_123, r_125, r_127, r_129, at_131, h_98, h_100, h_102, h_104, h_108, h_110, h_112, h_114, h_116, h_118, h_120, h_122, h_124, h_126, h_128, h_130⟩ := gF_o1 hG k_a0
        refine ty_calli ((W.runV (As := [.int yp]) (rest := []) ⟨hx, hb, hml, hown, hts⟩ (s_X9_pointHolds l D t cI cL cC gC gE g gW gA a0 yp (by omega) k_a0) (cwV 1 hts gu_X9_holdingPoint_X9_pointHolds_243 rfl rfl rfl (by decide +kernel) ⟨Nat.le_of_ble_eq_true rfl, Nat.le_of_ble_eq_true rfl⟩) (tP_V hG hE at_131 rfl) rfl rfl hl.1 rfl (lv_room (Nat.le_of_ble_eq_true rfl)) dX9_holdingPoint_22 ⟨Nat.le_of_ble_eq_true rfl, Nat.le_of_ble_eq_true rfl⟩)) hS (fun _ h => h) (fun r_132 H locs hp_133 hG hS o_134 => ?_)
        rcases hp_133 with rfl | rfl
        · skip
          refine lv_if_eq (tgt := 39) hx hb dX9_holdingPoint_25 (by decide) (fun _ => ?_) (fun q => absurd (by decide) q)
          obtain ⟨x_135, e_136⟩ : ∃ y : Int32, y = yp + Int32.ofInt 1 := ⟨_, rfl⟩
          have i_x_135 : x_135.toInt = yp.toInt + 1 := by rw [e_136, show Int32.ofInt 1 = 1 by decide]; exact (q_add (by rw [show (1 : Int32).toInt = 1 by decide]; omega) (by rw [show (1 : Int32).toInt = 1 by decide]; omega)).trans (by rw [show (1 : Int32).toInt = 1 by decide])
          refine lv_iinc (v := x_135) (lv' := [(4, .int x_135), (3, .int r_47), (2, .int yb), (0, .ref a0), (1, .int a1)]) hx hb dX9_holdingPoint_39 hl (k := 0) rfl e_136.symm (by decide) rfl (fun ls hl => ?_)
          refine lv_goto (tgt := 13) hx hb dX9_holdingPoint_42 (by decide) ?_
          exact (hWW _ _ _).mp (ih x_135 yb (g + 96) H locs ls (by omega) (by omega) (by omega) (by omega) hG hS (lv_sub hl [0, 1, 2, 3, 4] rfl))
        · skip
          refine lv_if_eq (tgt := 39) hx hb dX9_holdingPoint_25 (by decide) (fun q => absurd q (by decide)) (fun _ => ?_)
          refine lv_iload_n hx hb dX9_holdingPoint_28 rfl (lv_at hl 2 rfl) ?_
          refine lv_pc (pc2 := 29) rfl ?_
          refine lv_iload_n hx hb dX9_holdingPoint_29 rfl (lv_at hl 4 rfl) ?_
          refine lv_icmp_ne (tgt := 36) hx hb dX9_holdingPoint_30 (by decide) (fun c_137 => ?_) (fun c_137 => ?_)
          · skip
            have c_137 : yb.toInt ≠ a1.toInt := q_ne c_137
            obtain ⟨x_138, e_139⟩ : ∃ y : Int32, y = yb + Int32.ofInt 1 := ⟨_, rfl⟩
            refine lv_iinc (v := x_138) (lv' := [(2, .int x_138), (4, .int yp), (3, .int r_47), (0, .ref a0), (1, .int a1)]) hx hb dX9_holdingPoint_36 hl (k := 2) rfl e_139.symm (by decide) rfl (fun ls hl => ?_)
            obtain ⟨x_140, e_141⟩ : ∃ y : Int32, y = yp + Int32.ofInt 1 := ⟨_, rfl⟩
            have i_x_140 : x_140.toInt = yp.toInt + 1 := by rw [e_141, show Int32.ofInt 1 = 1 by decide]; exact (q_add (by rw [show (1 : Int32).toInt = 1 by decide]; omega) (by rw [show (1 : Int32).toInt = 1 by decide]; omega)).trans (by rw [show (1 : Int32).toInt = 1 by decide])
            refine lv_iinc (v := x_140) (lv' := [(4, .int x_140), (2, .int x_138), (3, .int r_47), (0, .ref a0), (1, .int a1)]) hx hb dX9_holdingPoint_39 hl (k := 1) rfl e_141.symm (by decide) rfl (fun ls hl => ?_)
            refine lv_goto (tgt := 13) hx hb dX9_holdingPoint_42 (by decide) ?_
            exact (hWW _ _ _).mp (ih x_140 x_138 (g + 96) H locs ls (by omega) (by omega) (by omega) (by omega) hG hS (lv_sub hl [0, 2, 1, 3, 4] rfl))
          · skip
            have c_137 : yb.toInt = a1.toInt := q_eq c_137
            refine lv_iload hx hb dX9_holdingPoint_33 (lv_at hl 0 rfl) ?_
            exact ty_iret hx hb hr hlk (hG.weak (fun _ _ => gF_mono (by omega))) hS True.intro dX9_holdingPoint_35
  have hz_yp : (0 : Int32).toInt = 0 := by decide
  have hz_yb : (0 : Int32).toInt = 0 := by decide
  exact loop (256 - 0 : Int).toNat 0 0 G H locs ls (by omega) (by omega) (by omega) (by omega) hG hS (lv_sub hl [0, 1, 2, 3, 4] rfl)

def uX9_peakAhead : List Cond := .code yX9_peakAhead cX9_peakAhead 9 (some .long) :: ([.fieldLink RX9 57 "RiverModel" "trial" "LRiverModel$Course;", .fieldLink RX9 53 "RiverModel" "now" "LRiverModel$Course;", .methodLink RX9 330 yX0_copyFrom, .instanceMethod yX0_copyFrom, .selects RX0 yX0_copyFrom yX0_copyFrom, .initialized RX0, .fieldLink RX9 144 "RiverModel$Course" "hours" "I", .fieldLink RX9 88 "RiverModel" "worlds" "LRiverModel$Worlds;", .methodLink RX9 371 yX8_rainAhead, .instanceMethod yX8_rainAhead, .selects RX8 yX8_rainAhead yX8_rainAhead, .initialized RX8, .fieldLink RX9 19 "RiverModel" "model" "LRiverModel$Model;", .fieldLink RX9 39 "RiverModel" "skyA" "LRiverModel$Sky;", .methodLink RX9 360 yX6_tempIn, .instanceMethod yX6_tempIn, .selects RX6 yX6_tempIn yX6_tempIn, .initialized RX6, .methodLink RX9 363 yX0_goHour, .instanceMethod yX0_goHour, .selects RX0 yX0_goHour yX0_goHour, .fieldLink RX9 74 "RiverModel" "gauges" "LRiverModel$Gauges;", .methodLink RX9 215 yX1_reading, .instanceMethod yX1_reading, .selects RX1 yX1_reading yX1_reading, .initialized RX1, .methodLink RX9 374 Lib.MathLoose.max_long.x, .static Lib.MathLoose.max_long.x, .initialized "java/lang/Math", .code Lib.MathLoose.max_long.x Lib.MathLoose.max_long.code 4 (some .long), .methodLink RX9 357 yX6_rainIn, .instanceMethod yX6_rainIn, .selects RX6 yX6_rainIn yX6_rainIn, .code yX0_copyFrom cX0_copyFrom 2 none, .fieldLink RX0 9 "RiverModel$Course" "held" "[J", .methodLink RX0 54 arraycopyName, .native arraycopyName, .static arraycopyName, .initialized "java/lang/System", .fieldLink RX0 15 "RiverModel$Course" "moved" "[J", .fieldLink RX0 18 "RiverModel$Course" "openings" "[I", .fieldLink RX0 22 "RiverModel$Course" "due" "[J", .fieldLink RX0 25 "RiverModel$Course" "rained" "J", .fieldLink RX0 29 "RiverModel$Course" "air" "J", .fieldLink RX0 32 "RiverModel$Course" "sea" "J", .fieldLink RX0 35 "RiverModel$Course" "hours" "I", .code yX8_rainAhead cX8_rainAhead 3 (some .int), .initialized RX9, .static yX9_isNoWorld, .static yX9_isOutside, .fieldLink RX8 18 "RiverModel$Worlds" "rains" "[I", .code yX9_isNoWorld cX9_isNoWorld 1 (some .boolean), .code yX9_isOutside cX9_isOutside 3 (some .boolean), .code yX6_tempIn cX6_tempIn 2 (some .int), .fieldLink RX6 15 "RiverModel$Sky" "temps" "[I", .code yX0_goHour cX0_goHour 7 none, .methodLink RX0 72 yX0_bringDue, .instanceMethod yX0_bringDue, .selects RX0 yX0_bringDue yX0_bringDue, .fieldLink RX0 75 "RiverModel$Model" "many" "I", .methodLink RX0 78 yX0_amountOf, .instanceMethod yX0_amountOf, .selects RX0 yX0_amountOf yX0_amountOf, .methodLink RX0 82 yX0_move, .instanceMethod yX0_move, .selects RX0 yX0_move yX0_move, .code yX0_bringDue cX0_bringDue 3 none, .code yX0_amountOf cX0_amountOf 11 (some .long), .methodLink RX0 86 yX4_cell, .instanceMethod yX4_cell, .selects RX4 yX4_cell yX4_cell, .initialized RX4, .static yX9_isNoStore, .methodLink RX0 110 yX4_gateOf, .instanceMethod yX4_gateOf, .selects RX4 yX4_gateOf yX4_gateOf, .methodLink RX0 113 yX0_openingOf, .instanceMethod yX0_openingOf, .selects RX0 yX0_openingOf yX0_openingOf, .methodLink RX0 107 Lib.MathLoose.min_long.x, .static Lib.MathLoose.min_long.x, .code Lib.MathLoose.min_long.x Lib.MathLoose.min_long.code 4 (some .long), .methodLink RX0 94 yX0_leakOf, .static yX0_leakOf, .constantLong RX0 117 (100), .methodLink RX0 98 yX4_capacityOf, .instanceMethod yX4_capacityOf, .selects RX4 yX4_capacityOf yX4_capacityOf, .methodLink RX0 101 Lib.MathLoose.max_long.x, .constantLong RX0 119 (10), .code yX4_cell cX4_cell 3 (some .int), .fieldLink RX4 9 "RiverModel$Model" "cells" "[I", .code yX9_isNoStore cX9_isNoStore 1 (some .boolean), .code yX4_gateOf cX4_gateOf 3 (some .int), .fieldLink RX4 28 "RiverModel$Model" "gates" "I", .fieldLink RX4 18 "RiverModel$Model" "gateItems" "[I", .code yX0_openingOf cX0_openingOf 2 (some .long), .static yX9_isNoGate, .code yX9_isNoGate cX9_isNoGate 1 (some .boolean), .code yX0_leakOf cX0_leakOf 8 (some .long), .code yX4_capacityOf cX4_capacityOf 2 (some .int), .methodLink RX4 66 yX4_hasStore, .instanceMethod yX4_hasStore, .selects RX4 yX4_hasStore yX4_hasStore, .fieldLink RX4 15 "RiverModel$Model" "storeItems" "[I", .methodLink RX4 73 yX4_cell, .code yX4_hasStore cX4_hasStore 2 (some .boolean), .code yX0_move cX0_move 8 none, .methodLink RX0 124 yX0_send, .instanceMethod yX0_send, .selects RX0 yX0_send yX0_send, .code yX0_send cX0_send 5 none, .code yX1_reading cX1_reading 4 (some .long), .methodLink RX1 35 yX1_isSet, .instanceMethod yX1_isSet, .selects RX1 yX1_isSet yX1_isSet, .fieldLink RX1 15 "RiverModel$Gauges" "places" "[I", .fieldLink RX1 9 "RiverModel$Gauges" "whats" "[I", .fieldLink RX1 50 "RiverModel$Course" "held" "[J", .static yX9_isNoItem, .fieldLink RX1 41 "RiverModel$Course" "moved" "[J", .code yX1_isSet cX1_isSet 2 (some .boolean), .code yX9_isNoItem cX9_isNoItem 1 (some .boolean), .code yX6_rainIn cX6_rainIn 2 (some .int), .fieldLink RX6 9 "RiverModel$Sky" "rains" "[I"] ++ wsX90 ++ wsX00 ++ wsX80 ++ wsX60 ++ wsX40 ++ wsX10)
set_option maxRecDepth 20000 in
theorem gu_X9_peakAhead_X0_copyFrom_330 : GoodIn uX9_peakAhead (wsV RX9 330 RX0 yX0_copyFrom uX0_copyFrom) := goodIn_r _ [3, 4, 5, 6, 34, 35, 36, 37, 38, 39, 40, 41, 42, 43, 44, 45, 46, 144, 145, 146, 147, 148, 149, 150, 151] rfl (by decide +kernel)
set_option maxRecDepth 20000 in
theorem gu_X9_peakAhead_X8_rainAhead_371 : GoodIn uX9_peakAhead (wsV RX9 371 RX8 yX8_rainAhead uX8_rainAhead) := goodIn_r _ [9, 10, 11, 12, 47, 48, 49, 50, 51, 52, 53, 152, 153, 154] rfl (by decide +kernel)
set_option maxRecDepth 20000 in
theorem gu_X9_peakAhead_X6_tempIn_360 : GoodIn uX9_peakAhead (wsV RX9 360 RX6 yX6_tempIn uX6_tempIn) := goodIn_r _ [15, 16, 17, 18, 54, 48, 50, 55, 53, 155, 156] rfl (by decide +kernel)
set_option maxRecDepth 20000 in
theorem gu_X9_peakAhead_X0_goHour_363 : GoodIn uX9_peakAhead (wsV RX9 363 RX0 yX0_goHour uX0_goHour) := goodIn_r _ [19, 20, 21, 6, 56, 57, 58, 59, 6, 46, 60, 61, 62, 63, 40, 64, 65, 66, 67, 35, 42, 68, 69, 70, 71, 72, 48, 73, 74, 75, 76, 77, 78, 79, 80, 81, 29, 82, 83, 84, 85, 86, 87, 88, 89, 28, 30, 90, 91, 92, 93, 94, 95, 96, 97, 98, 41, 99, 100, 101, 102, 103, 104, 105, 106, 107, 108, 43, 109, 110, 111, 45, 44, 112, 50, 53, 144, 145, 146, 147, 148, 149, 150, 151, 157, 158, 159, 160, 161, 162] rfl (by decide +kernel)
set_option maxRecDepth 20000 in
theorem gu_X9_peakAhead_X1_reading_215 : GoodIn uX9_peakAhead (wsV RX9 215 RX1 yX1_reading uX1_reading) := goodIn_r _ [23, 24, 25, 26, 113, 114, 115, 116, 26, 117, 118, 48, 73, 119, 120, 121, 122, 93, 123, 163, 164, 165, 166, 144, 145, 146, 147, 148, 149, 150, 151] rfl (by decide +kernel)
set_option maxRecDepth 20000 in
theorem gu_X9_peakAhead_X6_rainIn_357 : GoodIn uX9_peakAhead (wsV RX9 357 RX6 yX6_rainIn uX6_rainIn) := goodIn_r _ [31, 32, 33, 18, 124, 48, 50, 125, 53, 155, 156] rfl (by decide +kernel)
set_option maxHeartbeats 4000000 in
set_option maxRecDepth 100000 in
theorem s_X9_peakAhead (l : Launch) (D : va_G) (t : Nat → Nat) (cI cL cC : ClassId) (gC : Int32) (gE : Int32) (G : Nat) (gW : Nat → Int32) (gA : Nat → Int32) (a0 : Nat) (a1 : Int32) (a2 : Int32) (a3 : Int32) (h24 : a2.toInt ≤ 24) (hGb : G ≤ 190000000) (k_a0 : t a0 = 1) : tM l yX9_peakAhead uX9_peakAhead 4 99 D (gF cI cL cC gC gE G gW gA) (gF cI cL cC gC gE (G + 24) gW gA) t cI cL cC [.ref a0, .int a1, .int a2, .int a3] wrC (pL (fun r => True)) := by
  refine tM.ofW (cc := cX9_peakAhead) (maxL := 9) (ret := (some .long)) (by decide) rfl (Nat.le_of_ble_eq_true rfl) ?_
  intro p e s m below meth c hx hb hr hml hown hts hlk H locs hG hK hE hS ls hl
  have hl : lv_has ls 9 [(0, .ref a0), (1, .int a1), (2, .int a2), (3, .int a3)] := hl
  have in9 : ∀ w ∈ wsX90, w ∈ uX9_peakAhead := fun w h => List.mem_cons_of_mem _ (List.mem_append_left _ (List.mem_append_left _ (List.mem_append_left _ (List.mem_append_left _ (List.mem_append_left _ (List.mem_append_right _ h))))))
  have in0 : ∀ w ∈ wsX00, w ∈ uX9_peakAhead := fun w h => List.mem_cons_of_mem _ (List.mem_append_left _ (List.mem_append_left _ (List.mem_append_left _ (List.mem_append_left _ (List.mem_append_right _ h)))))
  refine lv_aload_n hx hb dX9_peakAhead_0 rfl (lv_at hl 0 rfl) ?_
  obtain ⟨r_1, r_3, r_5, r_7, v_9, v_10, r_11, r_13, r_15, r_17, r_19, r_21, r_23, v_25, r_27, r_29, r_31, r_33, at_35, h_2, h_4, h_6, h_8, h_12, h_14, h_16, h_18, h_20, h_22, h_24, h_26, h_28, h_30, h_32, h_34⟩ := gF_o1 hG k_a0
  refine va_get (D := D) (ci := 8) (v := .ref r_19) (C := RX9) (T := TX9) (N := 18) hx hb hts in9 hown hK (va_one at_35) 0 rfl rfl 10 (by decide) (hts (.fieldLink RX9 57 "RiverModel" "trial" "LRiverModel$Course;") (List.mem_of_getElem? (i := 1) rfl)) (fun _ h9 => h9) rfl dX9_peakAhead_1 ?_
  refine lv_aload_n hx hb dX9_peakAhead_4 rfl (lv_at hl 0 rfl) ?_
  refine va_get (D := D) (ci := 8) (v := .ref r_17) (C := RX9) (T := TX9) (N := 18) hx hb hts in9 hown hK (va_one at_35) 0 rfl rfl 9 (by decide) (hts (.fieldLink RX9 53 "RiverModel" "now" "LRiverModel$Course;") (List.mem_of_getElem? (i := 2) rfl)) (fun _ h9 => h9) rfl dX9_peakAhead_5 ?_
  obtain ⟨r_36, r_38, r_40, r_42, v_44, v_45, v_46, v_47, at_49, h_37, h_39, h_41, h_43, h_48⟩ := gF_o5 hG h_20
  refine ty_callv ((W.runV (As := [.ref r_17]) (rest := []) ⟨hx, hb, hml, hown, hts⟩ (s_X0_copyFrom l D t cI cL cC gC gE G gW gA r_19 r_17 h_20 h_18) (cwV 1 hts gu_X9_peakAhead_X0_copyFrom_330 rfl rfl rfl (by decide +kernel) ⟨Nat.le_of_ble_eq_true rfl, Nat.le_of_ble_eq_true rfl⟩) (tP_V hG hE at_49 rfl) rfl rfl hl.1 rfl (lv_room (Nat.le_of_ble_eq_true rfl)) dX9_peakAhead_8 ⟨Nat.le_of_ble_eq_true rfl, Nat.le_of_ble_eq_true rfl⟩)) hS (fun _ h => h) (fun H locs hp_51 hG hS o_52 => ?_)
  have at_35 := va_at.keptC at_35 o_52 k_a0 rfl
  refine lv_lconst (v := 0) hx hb dX9_peakAhead_11 (by decide) ?_
  refine lv_lstore (lv' := [(4, .long 0), (0, .ref a0), (1, .int a1), (2, .int a2), (3, .int a3)]) hx hb dX9_peakAhead_12 hl (by decide) rfl (fun ls hl => ?_)
  refine lv_pc (pc2 := 14) rfl ?_
  refine lv_iconst (v := 0) hx hb dX9_peakAhead_14 (by decide) ?_
  refine lv_istore (lv' := [(6, .int 0), (4, .long 0), (0, .ref a0), (1, .int a1), (2, .int a2), (3, .int a3)]) hx hb dX9_peakAhead_15 hl (by decide) rfl (fun ls hl => ?_)
  refine lv_pc (pc2 := 17) rfl ?_
  refine lp_gen (fun WW hWW => ?_)
  have kx : ∀ (ya : Int32) (yg : Int64) (g : Nat) (H1 : Heap) (locs1 : List Loc) (ls1 : Array Slot), 0 ≤ ya.toInt → ya.toInt ≤ 24 → (g : Int) + (24 - ya.toInt) ≤ (G : Int) + 24 → tG D (gF cI cL cC gC gE g gW gA) t H1 → tF t wrC s.heap H1 locs1 → lv_has ls1 9 [(6, .int ya), (4, .long yg), (0, .ref a0), (1, .int a1), (2, .int a2), (3, .int a3)] → WW H1 locs1 (F0 m 107 ls1 []) := by
    intro ya yg g H locs ls v0 v1 v2 hG hS hl
    refine (hWW _ _ _).mpr ?_
    refine lv_lload hx hb dX9_peakAhead_107 (lv_at hl 1 rfl) ?_
    exact ty_lret hx hb hr hlk (hG.weak (fun _ _ => gF_mono (by omega))) hS True.intro dX9_peakAhead_109
  have loop : ∀ (k : Nat) (ya : Int32) (yg : Int64) (g : Nat) (H1 : Heap) (locs1 : List Loc) (ls1 : Array Slot), 24 - ya.toInt ≤ (k : Int) → 0 ≤ ya.toInt → ya.toInt ≤ 24 → (g : Int) + (24 - ya.toInt) ≤ (G : Int) + 24 → tG D (gF cI cL cC gC gE g gW gA) t H1 → tF t wrC s.heap H1 locs1 → lv_has ls1 9 [(6, .int ya), (4, .long yg), (0, .ref a0), (1, .int a1), (2, .int a2), (3, .int a3)] → WW H1 locs1 (F0 m 17 ls1 []) := by
    intro k
    induction k with
    | zero =>
      intro ya yg g H locs ls hk v0 v1 v2 hG hS hl
      refine (hWW _ _ _).mpr ?_
      refine lv_iload hx hb dX9_peakAhead_17 (lv_at hl 0 rfl) ?_
      refine lv_iload_n hx hb dX9_peakAhead_19 rfl (lv_at hl 4 rfl) ?_
      refine lv_icmp_ge (tgt := 107) hx hb dX9_peakAhead_20 (by decide) (fun c_53 => ?_) (fun c_53 => ?_)
      · skip
        have c_53 : a2.toInt ≤ ya.toInt := q_le c_53
        exact (hWW _ _ _).mp (kx ya yg g H locs ls (by omega) (by omega) (by omega) hG hS (lv_sub hl [0, 1, 2, 3, 4, 5] rfl))
      · skip
        have c_53 : ya.toInt < a2.toInt := q_nle c_53
        refine lv_aload_n hx hb dX9_peakAhead_23 rfl (lv_at hl 2 rfl) ?_
        refine lv_pc (pc2 := 24) rfl ?_
        obtain ⟨r_54, r_56, r_58, r_60, v_62, v_63, r_64, r_66, r_68, r_70, r_72, r_74, r_76, v_78, r_80, r_82, r_84, r_86, at_88, h_55, h_57, h_59, h_61, h_65, h_67, h_69, h_71, h_73, h_75, h_77, h_79, h_81, h_83, h_85, h_87⟩ := gF_o1 hG k_a0
        refine va_get (D := D) (ci := 8) (v := .ref r_72) (C := RX9) (T := TX9) (N := 18) hx hb hts in9 hown hK (va_one at_88) 0 rfl rfl 10 (by decide) (hts (.fieldLink RX9 57 "RiverModel" "trial" "LRiverModel$Course;") (List.mem_of_getElem? (i := 1) rfl)) (fun _ h9 => h9) rfl dX9_peakAhead_24 ?_
        obtain ⟨r_89, r_91, r_93, r_95, v_97, v_98, v_99, v_100, at_102, h_90, h_92, h_94, h_96, h_101⟩ := gF_o5 hG h_73
        refine va_get (D := D) (ci := 0) (v := .int v_100) (C := RX0) (T := TX0) (N := 8) hx hb hts in0 hown hK (va_one at_102) 0 rfl rfl 7 (by decide) (hts (.fieldLink RX9 144 "RiverModel$Course" "hours" "I") (List.mem_of_getElem? (i := 7) rfl)) (fun _ h9 => h9) rfl dX9_peakAhead_27 ?_
        refine lv_istore (lv' := [(7, .int v_100), (6, .int ya), (4, .long yg), (0, .ref a0), (1, .int a1), (2, .int a2), (3, .int a3)]) hx hb dX9_peakAhead_30 hl (by decide) rfl (fun ls hl => ?_)
        refine lv_iload_n hx hb dX9_peakAhead_32 rfl (lv_at hl 6 rfl) ?_
        refine lv_if_ge (tgt := 48) hx hb dX9_peakAhead_33 (by decide) (fun c_103 => ?_) (fun c_103 => ?_)
        · skip
          have c_103 : 0 ≤ a3.toInt := q_le c_103
          refine lv_aload_n hx hb dX9_peakAhead_48 rfl (lv_at hl 3 rfl) ?_
          refine va_get (D := D) (ci := 8) (v := .ref r_84) (C := RX9) (T := TX9) (N := 18) hx hb hts in9 hown hK (va_one at_88) 0 rfl rfl 16 (by decide) (hts (.fieldLink RX9 88 "RiverModel" "worlds" "LRiverModel$Worlds;") (List.mem_of_getElem? (i := 8) rfl)) (fun _ h9 => h9) rfl dX9_peakAhead_49 ?_
          refine lv_iload_n hx hb dX9_peakAhead_52 rfl (lv_at hl 6 rfl) ?_
          refine lv_pc (pc2 := 53) rfl ?_
          refine lv_iload hx hb dX9_peakAhead_53 (lv_at hl 1 rfl) ?_
          obtain ⟨r_104, r_106, r_108, at_110, h_105, h_107, h_109⟩ := gF_o8 hG h_85
          refine ty_calli ((W.runV (As := [.int a3, .int ya]) (rest := []) ⟨hx, hb, hml, hown, hts⟩ (s_X8_rainAhead l D t cI cL cC gC gE g gW gA r_84 a3 ya h_85) (cwV 2 hts gu_X9_peakAhead_X8_rainAhead_371 rfl rfl rfl (by decide +kernel) ⟨Nat.le_of_ble_eq_true rfl, Nat.le_of_ble_eq_true rfl⟩) (tP_V hG hE at_110 rfl) rfl rfl hl.1 rfl (lv_room (Nat.le_of_ble_eq_true rfl)) dX9_peakAhead_55 ⟨Nat.le_of_ble_eq_true rfl, Nat.le_of_ble_eq_true rfl⟩)) hS (fun k h => by simp [wr0] at h) (fun r_111 H locs hp_112 hG hS o_113 => ?_)
          have at_88 := va_at.keptC at_88 o_113 k_a0 rfl
          have at_102 := va_at.keptC at_102 o_113 h_73 rfl
          have at_110 := va_at.keptC at_110 o_113 h_85 rfl
          refine lv_istore (lv' := [(8, .int r_111), (7, .int v_100), (6, .int ya), (4, .long yg), (0, .ref a0), (1, .int a1), (2, .int a2), (3, .int a3)]) hx hb dX9_peakAhead_58 hl (by decide) rfl (fun ls hl => ?_)
          refine lv_aload_n hx hb dX9_peakAhead_60 rfl (lv_at hl 4 rfl) ?_
          refine va_get (D := D) (ci := 8) (v := .ref r_72) (C := RX9) (T := TX9) (N := 18) hx hb hts in9 hown hK (va_one at_88) 0 rfl rfl 10 (by decide) (hts (.fieldLink RX9 57 "RiverModel" "trial" "LRiverModel$Course;") (List.mem_of_getElem? (i := 1) rfl)) (fun _ h9 => h9) rfl dX9_peakAhead_61 ?_
          refine lv_aload_n hx hb dX9_peakAhead_64 rfl (lv_at hl 4 rfl) ?_
          refine va_get (D := D) (ci := 8) (v := .ref r_56) (C := RX9) (T := TX9) (N := 18) hx hb hts in9 hown hK (va_one at_88) 0 rfl rfl 1 (by decide) (hts (.fieldLink RX9 19 "RiverModel" "model" "LRiverModel$Model;") (List.mem_of_getElem? (i := 13) rfl)) (fun _ h9 => h9) rfl dX9_peakAhead_65 ?_
          refine lv_iload hx hb dX9_peakAhead_68 (lv_at hl 0 rfl) ?_
          refine lv_pc (pc2 := 70) rfl ?_
          refine lv_aload_n hx hb dX9_peakAhead_70 rfl (lv_at hl 4 rfl) ?_
          refine va_get (D := D) (ci := 8) (v := .ref r_64) (C := RX9) (T := TX9) (N := 18) hx hb hts in9 hown hK (va_one at_88) 0 rfl rfl 6 (by decide) (hts (.fieldLink RX9 39 "RiverModel" "skyA" "LRiverModel$Sky;") (List.mem_of_getElem? (i := 14) rfl)) (fun _ h9 => h9) rfl dX9_peakAhead_71 ?_
          refine lv_iload hx hb dX9_peakAhead_74 (lv_at hl 1 rfl) ?_
          obtain ⟨r_114, r_116, at_118, h_115, h_117⟩ := gF_o4 hG h_65
          refine ty_calli ((W.runV (As := [.int v_100]) (rest := [.int r_111, .ref r_56, .ref r_72]) ⟨hx, hb, hml, hown, hts⟩ (s_X6_tempIn l D t cI cL cC gC gE g gW gA r_64 v_100 h_65) (cwV 1 hts gu_X9_peakAhead_X6_tempIn_360 rfl rfl rfl (by decide +kernel) ⟨Nat.le_of_ble_eq_true rfl, Nat.le_of_ble_eq_true rfl⟩) (tP_V hG hE at_118 rfl) rfl rfl hl.1 rfl (lv_room (Nat.le_of_ble_eq_true rfl)) dX9_peakAhead_76 ⟨Nat.le_of_ble_eq_true rfl, Nat.le_of_ble_eq_true rfl⟩)) hS (fun k h => by simp [wr0] at h) (fun r_119 H locs hp_120 hG hS o_121 => ?_)
          have at_88 := va_at.keptC at_88 o_121 k_a0 rfl
          have at_102 := va_at.keptC at_102 o_121 h_73 rfl
          have at_110 := va_at.keptC at_110 o_121 h_85 rfl
          have at_118 := va_at.keptC at_118 o_121 h_65 rfl
          refine ty_callv ((W.runV (As := [.ref r_56, .int r_111, .int r_119]) (rest := []) ⟨hx, hb, hml, hown, hts⟩ (s_X0_goHour l D t cI cL cC gC gE g gW gA r_72 r_56 r_111 r_119 (by omega) h_73 h_57) (cwV 3 hts gu_X9_peakAhead_X0_goHour_363 rfl rfl rfl (by decide +kernel) ⟨Nat.le_of_ble_eq_true rfl, Nat.le_of_ble_eq_true rfl⟩) (tP_V hG hE at_102 rfl) rfl rfl hl.1 rfl (lv_room (Nat.le_of_ble_eq_true rfl)) dX9_peakAhead_79 ⟨Nat.le_of_ble_eq_true rfl, Nat.le_of_ble_eq_true rfl⟩)) hS (fun _ h => h) (fun H locs hp_123 hG hS o_124 => ?_)
          have at_88 := va_at.keptC at_88 o_124 k_a0 rfl
          have at_110 := va_at.keptC at_110 o_124 h_85 rfl
          have at_118 := va_at.keptC at_118 o_124 h_65 rfl
          refine lv_lload hx hb dX9_peakAhead_82 (lv_at hl 3 rfl) ?_
          refine lv_aload_n hx hb dX9_peakAhead_84 rfl (lv_at hl 4 rfl) ?_
          refine va_get (D := D) (ci := 8) (v := .ref r_80) (C := RX9) (T := TX9) (N := 18) hx hb hts in9 hown hK (va_one at_88) 0 rfl rfl 14 (by decide) (hts (.fieldLink RX9 74 "RiverModel" "gauges" "LRiverModel$Gauges;") (List.mem_of_getElem? (i := 22) rfl)) (fun _ h9 => h9) rfl dX9_peakAhead_85 ?_
          refine lv_pc (pc2 := 88) rfl ?_
          refine lv_aload_n hx hb dX9_peakAhead_88 rfl (lv_at hl 4 rfl) ?_
          refine va_get (D := D) (ci := 8) (v := .ref r_72) (C := RX9) (T := TX9) (N := 18) hx hb hts in9 hown hK (va_one at_88) 0 rfl rfl 10 (by decide) (hts (.fieldLink RX9 57 "RiverModel" "trial" "LRiverModel$Course;") (List.mem_of_getElem? (i := 1) rfl)) (fun _ h9 => h9) rfl dX9_peakAhead_89 ?_
          refine lv_iload_n hx hb dX9_peakAhead_92 rfl (lv_at hl 5 rfl) ?_
          obtain ⟨r_125, r_127, r_129, at_131, h_126, h_128, h_130⟩ := gF_o6 hG h_81
          refine ty_calll ((W.runV (As := [.ref r_72, .int a1]) (rest := [.long yg]) ⟨hx, hb, hml, hown, hts⟩ (s_X1_reading l D t cI cL cC gC gE (g + 1) gW gA r_80 r_72 a1 h_81 h_73) (cwV 2 hts gu_X9_peakAhead_X1_reading_215 rfl rfl rfl (by decide +kernel) ⟨Nat.le_of_ble_eq_true rfl, Nat.le_of_ble_eq_true rfl⟩) (tP_V hG hE at_131 rfl) rfl rfl hl.1 rfl (lv_room (Nat.le_of_ble_eq_true rfl)) dX9_peakAhead_93 ⟨Nat.le_of_ble_eq_true rfl, Nat.le_of_ble_eq_true rfl⟩)) hS (fun k h => by simp [wr0] at h) (fun z_132 H locs hp_133 hG hS o_134 => ?_)
          have at_88 := va_at.keptC at_88 o_134 k_a0 rfl
          have at_110 := va_at.keptC at_110 o_134 h_85 rfl
          have at_118 := va_at.keptC at_118 o_134 h_65 rfl
          have at_131 := va_at.keptC at_131 o_134 h_81 rfl
          refine va_mmax_long hx hb (by rw [hml]; exact hl.1.symm) hown (hts (.methodLink RX9 374 Lib.MathLoose.max_long.x) (List.mem_of_getElem? (i := 27) rfl)) (hts (.static Lib.MathLoose.max_long.x) (List.mem_of_getElem? (i := 28) rfl)) (hts (.initialized "java/lang/Math") (List.mem_of_getElem? (i := 29) rfl)) (hts (.code Lib.MathLoose.max_long.x Lib.MathLoose.max_long.code 4 (some .long)) (List.mem_of_getElem? (i := 30) rfl)) (Nat.le_of_ble_eq_true rfl) (Nat.le_of_ble_eq_true rfl) (Nat.zero_le _) (Nat.zero_le _) dX9_peakAhead_96 ?_
          refine lv_topl (fun z_135 e_136 => ?_)
          refine lv_lstore (lv' := [(4, .long z_135), (8, .int r_111), (7, .int v_100), (6, .int ya), (0, .ref a0), (1, .int a1), (2, .int a2), (3, .int a3)]) hx hb dX9_peakAhead_99 hl (by decide) rfl (fun ls hl => ?_)
          obtain ⟨x_137, e_138⟩ : ∃ y : Int32, y = ya + Int32.ofInt 1 := ⟨_, rfl⟩
          have i_x_137 : x_137.toInt = ya.toInt + 1 := by rw [e_138, show Int32.ofInt 1 = 1 by decide]; exact (q_add (by rw [show (1 : Int32).toInt = 1 by decide]; omega) (by rw [show (1 : Int32).toInt = 1 by decide]; omega)).trans (by rw [show (1 : Int32).toInt = 1 by decide])
          refine lv_iinc (v := x_137) (lv' := [(6, .int x_137), (4, .long z_135), (8, .int r_111), (7, .int v_100), (0, .ref a0), (1, .int a1), (2, .int a2), (3, .int a3)]) hx hb dX9_peakAhead_101 hl (k := 3) rfl e_138.symm (by decide) rfl (fun ls hl => ?_)
          refine lv_goto (tgt := 17) hx hb dX9_peakAhead_104 (by decide) ?_
          exfalso; omega
        · skip
          have c_103 : a3.toInt < 0 := q_nle c_103
          refine lv_pc (pc2 := 36) rfl ?_
          refine lv_aload_n hx hb dX9_peakAhead_36 rfl (lv_at hl 3 rfl) ?_
          refine va_get (D := D) (ci := 8) (v := .ref r_64) (C := RX9) (T := TX9) (N := 18) hx hb hts in9 hown hK (va_one at_88) 0 rfl rfl 6 (by decide) (hts (.fieldLink RX9 39 "RiverModel" "skyA" "LRiverModel$Sky;") (List.mem_of_getElem? (i := 14) rfl)) (fun _ h9 => h9) rfl dX9_peakAhead_37 ?_
          refine lv_iload hx hb dX9_peakAhead_40 (lv_at hl 0 rfl) ?_
          obtain ⟨r_139, r_141, at_143, h_140, h_142⟩ := gF_o4 hG h_65
          refine ty_calli ((W.runV (As := [.int v_100]) (rest := []) ⟨hx, hb, hml, hown, hts⟩ (s_X6_rainIn l D t cI cL cC gC gE g gW gA r_64 v_100 h_65) (cwV 1 hts gu_X9_peakAhead_X6_rainIn_357 rfl rfl rfl (by decide +kernel) ⟨Nat.le_of_ble_eq_true rfl, Nat.le_of_ble_eq_true rfl⟩) (tP_V hG hE at_143 rfl) rfl rfl hl.1 rfl (lv_room (Nat.le_of_ble_eq_true rfl)) dX9_peakAhead_42 ⟨Nat.le_of_ble_eq_true rfl, Nat.le_of_ble_eq_true rfl⟩)) hS (fun k h => by simp [wr0] at h) (fun r_144 H locs hp_145 hG hS o_146 => ?_)
          have at_88 := va_at.keptC at_88 o_146 k_a0 rfl
          have at_102 := va_at.keptC at_102 o_146 h_73 rfl
          have at_143 := va_at.keptC at_143 o_146 h_65 rfl
          refine lv_goto (tgt := 58) hx hb dX9_peakAhead_45 (by decide) ?_
          refine lv_istore (lv' := [(8, .int r_144), (7, .int v_100), (6, .int ya), (4, .long yg), (0, .ref a0), (1, .int a1), (2, .int a2), (3, .int a3)]) hx hb dX9_peakAhead_58 hl (by decide) rfl (fun ls hl => ?_)
          refine lv_aload_n hx hb dX9_peakAhead_60 rfl (lv_at hl 4 rfl) ?_
          refine va_get (D := D) (ci := 8) (v := .ref r_72) (C := RX9) (T := TX9) (N := 18) hx hb hts in9 hown hK (va_one at_88) 0 rfl rfl 10 (by decide) (hts (.fieldLink RX9 57 "RiverModel" "trial" "LRiverModel$Course;") (List.mem_of_getElem? (i := 1) rfl)) (fun _ h9 => h9) rfl dX9_peakAhead_61 ?_
          refine lv_pc (pc2 := 64) rfl ?_
          refine lv_aload_n hx hb dX9_peakAhead_64 rfl (lv_at hl 4 rfl) ?_
          refine va_get (D := D) (ci := 8) (v := .ref r_56) (C := RX9) (T := TX9) (N := 18) hx hb hts in9 hown hK (va_one at_88) 0 rfl rfl 1 (by decide) (hts (.fieldLink RX9 19 "RiverModel" "model" "LRiverModel$Model;") (List.mem_of_getElem? (i := 13) rfl)) (fun _ h9 => h9) rfl dX9_peakAhead_65 ?_
          refine lv_iload hx hb dX9_peakAhead_68 (lv_at hl 0 rfl) ?_
          refine lv_aload_n hx hb dX9_peakAhead_70 rfl (lv_at hl 4 rfl) ?_
          refine va_get (D := D) (ci := 8) (v := .ref r_64) (C := RX9) (T := TX9) (N := 18) hx hb hts in9 hown hK (va_one at_88) 0 rfl rfl 6 (by decide) (hts (.fieldLink RX9 39 "RiverModel" "skyA" "LRiverModel$Sky;") (List.mem_of_getElem? (i := 14) rfl)) (fun _ h9 => h9) rfl dX9_peakAhead_71 ?_
          refine lv_iload hx hb dX9_peakAhead_74 (lv_at hl 1 rfl) ?_
          refine ty_calli ((W.runV (As := [.int v_100]) (rest := [.int r_144, .ref r_56, .ref r_72]) ⟨hx, hb, hml, hown, hts⟩ (s_X6_tempIn l D t cI cL cC gC gE g gW gA r_64 v_100 h_65) (cwV 1 hts gu_X9_peakAhead_X6_tempIn_360 rfl rfl rfl (by decide +kernel) ⟨Nat.le_of_ble_eq_true rfl, Nat.le_of_ble_eq_true rfl⟩) (tP_V hG hE at_143 rfl) rfl rfl hl.1 rfl (lv_room (Nat.le_of_ble_eq_true rfl)) dX9_peakAhead_76 ⟨Nat.le_of_ble_eq_true rfl, Nat.le_of_ble_eq_true rfl⟩)) hS (fun k h => by simp [wr0] at h) (fun r_147 H locs hp_148 hG hS o_149 => ?_)
          have at_88 := va_at.keptC at_88 o_149 k_a0 rfl
          have at_102 := va_at.keptC at_102 o_149 h_73 rfl
          have at_143 := va_at.keptC at_143 o_149 h_65 rfl
          refine ty_callv ((W.runV (As := [.ref r_56, .int r_144, .int r_147]) (rest := []) ⟨hx, hb, hml, hown, hts⟩ (s_X0_goHour l D t cI cL cC gC gE g gW gA r_72 r_56 r_144 r_147 (by omega) h_73 h_57) (cwV 3 hts gu_X9_peakAhead_X0_goHour_363 rfl rfl rfl (by decide +kernel) ⟨Nat.le_of_ble_eq_true rfl, Nat.le_of_ble_eq_true rfl⟩) (tP_V hG hE at_102 rfl) rfl rfl hl.1 rfl (lv_room (Nat.le_of_ble_eq_true rfl)) dX9_peakAhead_79 ⟨Nat.le_of_ble_eq_true rfl, Nat.le_of_ble_eq_true rfl⟩)) hS (fun _ h => h) (fun H locs hp_151 hG hS o_152 => ?_)
          have at_88 := va_at.keptC at_88 o_152 k_a0 rfl
          have at_143 := va_at.keptC at_143 o_152 h_65 rfl
          refine lv_pc (pc2 := 82) rfl ?_
          refine lv_lload hx hb dX9_peakAhead_82 (lv_at hl 3 rfl) ?_
          refine lv_aload_n hx hb dX9_peakAhead_84 rfl (lv_at hl 4 rfl) ?_
          refine va_get (D := D) (ci := 8) (v := .ref r_80) (C := RX9) (T := TX9) (N := 18) hx hb hts in9 hown hK (va_one at_88) 0 rfl rfl 14 (by decide) (hts (.fieldLink RX9 74 "RiverModel" "gauges" "LRiverModel$Gauges;") (List.mem_of_getElem? (i := 22) rfl)) (fun _ h9 => h9) rfl dX9_peakAhead_85 ?_
          refine lv_aload_n hx hb dX9_peakAhead_88 rfl (lv_at hl 4 rfl) ?_
          refine va_get (D := D) (ci := 8) (v := .ref r_72) (C := RX9) (T := TX9) (N := 18) hx hb hts in9 hown hK (va_one at_88) 0 rfl rfl 10 (by decide) (hts (.fieldLink RX9 57 "RiverModel" "trial" "LRiverModel$Course;") (List.mem_of_getElem? (i := 1) rfl)) (fun _ h9 => h9) rfl dX9_peakAhead_89 ?_
          refine lv_iload_n hx hb dX9_peakAhead_92 rfl (lv_at hl 5 rfl) ?_
          obtain ⟨r_153, r_155, r_157, at_159, h_154, h_156, h_158⟩ := gF_o6 hG h_81
          refine ty_calll ((W.runV (As := [.ref r_72, .int a1]) (rest := [.long yg]) ⟨hx, hb, hml, hown, hts⟩ (s_X1_reading l D t cI cL cC gC gE (g + 1) gW gA r_80 r_72 a1 h_81 h_73) (cwV 2 hts gu_X9_peakAhead_X1_reading_215 rfl rfl rfl (by decide +kernel) ⟨Nat.le_of_ble_eq_true rfl, Nat.le_of_ble_eq_true rfl⟩) (tP_V hG hE at_159 rfl) rfl rfl hl.1 rfl (lv_room (Nat.le_of_ble_eq_true rfl)) dX9_peakAhead_93 ⟨Nat.le_of_ble_eq_true rfl, Nat.le_of_ble_eq_true rfl⟩)) hS (fun k h => by simp [wr0] at h) (fun z_160 H locs hp_161 hG hS o_162 => ?_)
          have at_88 := va_at.keptC at_88 o_162 k_a0 rfl
          have at_143 := va_at.keptC at_143 o_162 h_65 rfl
          have at_159 := va_at.keptC at_159 o_162 h_81 rfl
          refine va_mmax_long hx hb (by rw [hml]; exact hl.1.symm) hown (hts (.methodLink RX9 374 Lib.MathLoose.max_long.x) (List.mem_of_getElem? (i := 27) rfl)) (hts (.static Lib.MathLoose.max_long.x) (List.mem_of_getElem? (i := 28) rfl)) (hts (.initialized "java/lang/Math") (List.mem_of_getElem? (i := 29) rfl)) (hts (.code Lib.MathLoose.max_long.x Lib.MathLoose.max_long.code 4 (some .long)) (List.mem_of_getElem? (i := 30) rfl)) (Nat.le_of_ble_eq_true rfl) (Nat.le_of_ble_eq_true rfl) (Nat.zero_le _) (Nat.zero_le _) dX9_peakAhead_96 ?_
          refine lv_topl (fun z_163 e_164 => ?_)
          refine lv_pc (pc2 := 99) rfl ?_
          refine lv_lstore (lv' := [(4, .long z_163), (8, .int r_144), (7, .int v_100), (6, .int ya), (0, .ref a0), (1, .int a1), (2, .int a2), (3, .int a3)]) hx hb dX9_peakAhead_99 hl (by decide) rfl (fun ls hl => ?_)
          obtain ⟨x_165, e_166⟩ : ∃ y : Int32, y = ya + Int32.ofInt 1 := ⟨_, rfl⟩
          have i_x_165 : x_165.toInt = ya.toInt + 1 := by rw [e_166, show Int32.ofInt 1 = 1 by decide]; exact (q_add (by rw [show (1 : Int32).toInt = 1 by decide]; omega) (by rw [show (1 : Int32).toInt = 1 by decide]; omega)).trans (by rw [show (1 : Int32).toInt = 1 by decide])
          refine lv_iinc (v := x_165) (lv' := [(6, .int x_165), (4, .long z_163), (8, .int r_144), (7, .int v_100), (0, .ref a0), (1, .int a1), (2, .int a2), (3, .int a3)]) hx hb dX9_peakAhead_101 hl (k := 3) rfl e_166.symm (by decide) rfl (fun ls hl => ?_)
          refine lv_goto (tgt := 17) hx hb dX9_peakAhead_104 (by decide) ?_
          exfalso; omega
    | succ k ih =>
      intro ya yg g H locs ls hk v0 v1 v2 hG hS hl
      refine (hWW _ _ _).mpr ?_
      refine lv_iload hx hb dX9_peakAhead_17 (lv_at hl 0 rfl) ?_
      refine lv_iload_n hx hb dX9_peakAhead_19 rfl (lv_at hl 4 rfl) ?_
      refine lv_icmp_ge (tgt := 107) hx hb dX9_peakAhead_20 (by decide) (fun c_167 => ?_) (fun c_167 => ?_)
      · skip
        have c_167 : a2.toInt ≤ ya.toInt := q_le c_167
        exact (hWW _ _ _).mp (kx ya yg g H locs ls (by omega) (by omega) (by omega) hG hS (lv_sub hl [0, 1, 2, 3, 4, 5] rfl))
      · skip
        have c_167 : ya.toInt < a2.toInt := q_nle c_167
        refine lv_aload_n hx hb dX9_peakAhead_23 rfl (lv_at hl 2 rfl) ?_
        obtain ⟨r_168, r_170, r_172, r_174, v_176, v_177, r_178, r_180, r_182, r_184, r_186, r_188, r_190, v_192, r_194, r_196, r_198, r_200, at_202, h_169, h_171, h_173, h_175, h_179, h_181, h_183, h_185, h_187, h_189, h_191, h_193, h_195, h_197, h_199, h_201⟩ := gF_o1 hG k_a0
        refine va_get (D := D) (ci := 8) (v := .ref r_186) (C := RX9) (T := TX9) (N := 18) hx hb hts in9 hown hK (va_one at_202) 0 rfl rfl 10 (by decide) (hts (.fieldLink RX9 57 "RiverModel" "trial" "LRiverModel$Course;") (List.mem_of_getElem? (i := 1) rfl)) (fun _ h9 => h9) rfl dX9_peakAhead_24 ?_
        refine lv_pc (pc2 := 27) rfl ?_
        obtain ⟨r_203, r_205, r_207, r_209, v_211, v_212, v_213, v_214, at_216, h_204, h_206, h_208, h_210, h_215⟩ := gF_o5 hG h_187
        refine va_get (D := D) (ci := 0) (v := .int v_214) (C := RX0) (T := TX0) (N := 8) hx hb hts in0 hown hK (va_one at_216) 0 rfl rfl 7 (by decide) (hts (.fieldLink RX9 144 "RiverModel$Course" "hours" "I") (List.mem_of_getElem? (i := 7) rfl)) (fun _ h9 => h9) rfl dX9_peakAhead_27 ?_
        refine lv_istore (lv' := [(7, .int v_214), (6, .int ya), (4, .long yg), (0, .ref a0), (1, .int a1), (2, .int a2), (3, .int a3)]) hx hb dX9_peakAhead_30 hl (by decide) rfl (fun ls hl => ?_)
        refine lv_iload_n hx hb dX9_peakAhead_32 rfl (lv_at hl 6 rfl) ?_
        refine lv_if_ge (tgt := 48) hx hb dX9_peakAhead_33 (by decide) (fun c_217 => ?_) (fun c_217 => ?_)
        · skip
          have c_217 : 0 ≤ a3.toInt := q_le c_217
          refine lv_aload_n hx hb dX9_peakAhead_48 rfl (lv_at hl 3 rfl) ?_
          refine va_get (D := D) (ci := 8) (v := .ref r_198) (C := RX9) (T := TX9) (N := 18) hx hb hts in9 hown hK (va_one at_202) 0 rfl rfl 16 (by decide) (hts (.fieldLink RX9 88 "RiverModel" "worlds" "LRiverModel$Worlds;") (List.mem_of_getElem? (i := 8) rfl)) (fun _ h9 => h9) rfl dX9_peakAhead_49 ?_
          refine lv_iload_n hx hb dX9_peakAhead_52 rfl (lv_at hl 6 rfl) ?_
          refine lv_iload hx hb dX9_peakAhead_53 (lv_at hl 1 rfl) ?_
          refine lv_pc (pc2 := 55) rfl ?_
          obtain ⟨r_218, r_220, r_222, at_224, h_219, h_221, h_223⟩ := gF_o8 hG h_199
          refine ty_calli ((W.runV (As := [.int a3, .int ya]) (rest := []) ⟨hx, hb, hml, hown, hts⟩ (s_X8_rainAhead l D t cI cL cC gC gE g gW gA r_198 a3 ya h_199) (cwV 2 hts gu_X9_peakAhead_X8_rainAhead_371 rfl rfl rfl (by decide +kernel) ⟨Nat.le_of_ble_eq_true rfl, Nat.le_of_ble_eq_true rfl⟩) (tP_V hG hE at_224 rfl) rfl rfl hl.1 rfl (lv_room (Nat.le_of_ble_eq_true rfl)) dX9_peakAhead_55 ⟨Nat.le_of_ble_eq_true rfl, Nat.le_of_ble_eq_true rfl⟩)) hS (fun k h => by simp [wr0] at h) (fun r_225 H locs hp_226 hG hS o_227 => ?_)
          have at_202 := va_at.keptC at_202 o_227 k_a0 rfl
          have at_216 := va_at.keptC at_216 o_227 h_187 rfl
          have at_224 := va_at.keptC at_224 o_227 h_199 rfl
          refine lv_istore (lv' := [(8, .int r_225), (7, .int v_214), (6, .int ya), (4, .long yg), (0, .ref a0), (1, .int a1), (2, .int a2), (3, .int a3)]) hx hb dX9_peakAhead_58 hl (by decide) rfl (fun ls hl => ?_)
          refine lv_aload_n hx hb dX9_peakAhead_60 rfl (lv_at hl 4 rfl) ?_
          refine va_get (D := D) (ci := 8) (v := .ref r_186) (C := RX9) (T := TX9) (N := 18) hx hb hts in9 hown hK (va_one at_202) 0 rfl rfl 10 (by decide) (hts (.fieldLink RX9 57 "RiverModel" "trial" "LRiverModel$Course;") (List.mem_of_getElem? (i := 1) rfl)) (fun _ h9 => h9) rfl dX9_peakAhead_61 ?_
          refine lv_aload_n hx hb dX9_peakAhead_64 rfl (lv_at hl 4 rfl) ?_
          refine va_get (D := D) (ci := 8) (v := .ref r_170) (C := RX9) (T := TX9) (N := 18) hx hb hts in9 hown hK (va_one at_202) 0 rfl rfl 1 (by decide) (hts (.fieldLink RX9 19 "RiverModel" "model" "LRiverModel$Model;") (List.mem_of_getElem? (i := 13) rfl)) (fun _ h9 => h9) rfl dX9_peakAhead_65 ?_
          refine lv_iload hx hb dX9_peakAhead_68 (lv_at hl 0 rfl) ?_
          refine lv_aload_n hx hb dX9_peakAhead_70 rfl (lv_at hl 4 rfl) ?_
          refine lv_pc (pc2 := 71) rfl ?_
          refine va_get (D := D) (ci := 8) (v := .ref r_178) (C := RX9) (T := TX9) (N := 18) hx hb hts in9 hown hK (va_one at_202) 0 rfl rfl 6 (by decide) (hts (.fieldLink RX9 39 "RiverModel" "skyA" "LRiverModel$Sky;") (List.mem_of_getElem? (i := 14) rfl)) (fun _ h9 => h9) rfl dX9_peakAhead_71 ?_
          refine lv_iload hx hb dX9_peakAhead_74 (lv_at hl 1 rfl) ?_
          obtain ⟨r_228, r_230, at_232, h_229, h_231⟩ := gF_o4 hG h_179
          refine ty_calli ((W.runV (As := [.int v_214]) (rest := [.int r_225, .ref r_170, .ref r_186]) ⟨hx, hb, hml, hown, hts⟩ (s_X6_tempIn l D t cI cL cC gC gE g gW gA r_178 v_214 h_179) (cwV 1 hts gu_X9_peakAhead_X6_tempIn_360 rfl rfl rfl (by decide +kernel) ⟨Nat.le_of_ble_eq_true rfl, Nat.le_of_ble_eq_true rfl⟩) (tP_V hG hE at_232 rfl) rfl rfl hl.1 rfl (lv_room (Nat.le_of_ble_eq_true rfl)) dX9_peakAhead_76 ⟨Nat.le_of_ble_eq_true rfl, Nat.le_of_ble_eq_true rfl⟩)) hS (fun k h => by simp [wr0] at h) (fun r_233 H locs hp_234 hG hS o_235 => ?_)
          have at_202 := va_at.keptC at_202 o_235 k_a0 rfl
          have at_216 := va_at.keptC at_216 o_235 h_187 rfl
          have at_224 := va_at.keptC at_224 o_235 h_199 rfl
          have at_232 := va_at.keptC at_232 o_235 h_179 rfl
          refine ty_callv ((W.runV (As := [.ref r_170, .int r_225, .int r_233]) (rest := []) ⟨hx, hb, hml, hown, hts⟩ (s_X0_goHour l D t cI cL cC gC gE g gW gA r_186 r_170 r_225 r_233 (by omega) h_187 h_171) (cwV 3 hts gu_X9_peakAhead_X0_goHour_363 rfl rfl rfl (by decide +kernel) ⟨Nat.le_of_ble_eq_true rfl, Nat.le_of_ble_eq_true rfl⟩) (tP_V hG hE at_216 rfl) rfl rfl hl.1 rfl (lv_room (Nat.le_of_ble_eq_true rfl)) dX9_peakAhead_79 ⟨Nat.le_of_ble_eq_true rfl, Nat.le_of_ble_eq_true rfl⟩)) hS (fun _ h => h) (fun H locs hp_237 hG hS o_238 => ?_)
          have at_202 := va_at.keptC at_202 o_238 k_a0 rfl
          have at_224 := va_at.keptC at_224 o_238 h_199 rfl
          have at_232 := va_at.keptC at_232 o_238 h_179 rfl
          refine lv_lload hx hb dX9_peakAhead_82 (lv_at hl 3 rfl) ?_
          refine lv_aload_n hx hb dX9_peakAhead_84 rfl (lv_at hl 4 rfl) ?_
          refine va_get (D := D) (ci := 8) (v := .ref r_194) (C := RX9) (T := TX9) (N := 18) hx hb hts in9 hown hK (va_one at_202) 0 rfl rfl 14 (by decide) (hts (.fieldLink RX9 74 "RiverModel" "gauges" "LRiverModel$Gauges;") (List.mem_of_getElem? (i := 22) rfl)) (fun _ h9 => h9) rfl dX9_peakAhead_85 ?_
          refine lv_aload_n hx hb dX9_peakAhead_88 rfl (lv_at hl 4 rfl) ?_
          refine lv_pc (pc2 := 89) rfl ?_
          refine va_get (D := D) (ci := 8) (v := .ref r_186) (C := RX9) (T := TX9) (N := 18) hx hb hts in9 hown hK (va_one at_202) 0 rfl rfl 10 (by decide) (hts (.fieldLink RX9 57 "RiverModel" "trial" "LRiverModel$Course;") (List.mem_of_getElem? (i := 1) rfl)) (fun _ h9 => h9) rfl dX9_peakAhead_89 ?_
          refine lv_iload_n hx hb dX9_peakAhead_92 rfl (lv_at hl 5 rfl) ?_
          obtain ⟨r_239, r_241, r_243, at_245, h_240, h_242, h_244⟩ := gF_o6 hG h_195
          refine ty_calll ((W.runV (As := [.ref r_186, .int a1]) (rest := [.long yg]) ⟨hx, hb, hml, hown, hts⟩ (s_X1_reading l D t cI cL cC gC gE (g + 1) gW gA r_194 r_186 a1 h_195 h_187) (cwV 2 hts gu_X9_peakAhead_X1_reading_215 rfl rfl rfl (by decide +kernel) ⟨Nat.le_of_ble_eq_true rfl, Nat.le_of_ble_eq_true rfl⟩) (tP_V hG hE at_245 rfl) rfl rfl hl.1 rfl (lv_room (Nat.le_of_ble_eq_true rfl)) dX9_peakAhead_93 ⟨Nat.le_of_ble_eq_true rfl, Nat.le_of_ble_eq_true rfl⟩)) hS (fun k h => by simp [wr0] at h) (fun z_246 H locs hp_247 hG hS o_248 => ?_)
          have at_202 := va_at.keptC at_202 o_248 k_a0 rfl
          have at_224 := va_at.keptC at_224 o_248 h_199 rfl
          have at_232 := va_at.keptC at_232 o_248 h_179 rfl
          have at_245 := va_at.keptC at_245 o_248 h_195 rfl
          refine va_mmax_long hx hb (by rw [hml]; exact hl.1.symm) hown (hts (.methodLink RX9 374 Lib.MathLoose.max_long.x) (List.mem_of_getElem? (i := 27) rfl)) (hts (.static Lib.MathLoose.max_long.x) (List.mem_of_getElem? (i := 28) rfl)) (hts (.initialized "java/lang/Math") (List.mem_of_getElem? (i := 29) rfl)) (hts (.code Lib.MathLoose.max_long.x Lib.MathLoose.max_long.code 4 (some .long)) (List.mem_of_getElem? (i := 30) rfl)) (Nat.le_of_ble_eq_true rfl) (Nat.le_of_ble_eq_true rfl) (Nat.zero_le _) (Nat.zero_le _) dX9_peakAhead_96 ?_
          refine lv_topl (fun z_249 e_250 => ?_)
          refine lv_lstore (lv' := [(4, .long z_249), (8, .int r_225), (7, .int v_214), (6, .int ya), (0, .ref a0), (1, .int a1), (2, .int a2), (3, .int a3)]) hx hb dX9_peakAhead_99 hl (by decide) rfl (fun ls hl => ?_)
          obtain ⟨x_251, e_252⟩ : ∃ y : Int32, y = ya + Int32.ofInt 1 := ⟨_, rfl⟩
          have i_x_251 : x_251.toInt = ya.toInt + 1 := by rw [e_252, show Int32.ofInt 1 = 1 by decide]; exact (q_add (by rw [show (1 : Int32).toInt = 1 by decide]; omega) (by rw [show (1 : Int32).toInt = 1 by decide]; omega)).trans (by rw [show (1 : Int32).toInt = 1 by decide])
          refine lv_iinc (v := x_251) (lv' := [(6, .int x_251), (4, .long z_249), (8, .int r_225), (7, .int v_214), (0, .ref a0), (1, .int a1), (2, .int a2), (3, .int a3)]) hx hb dX9_peakAhead_101 hl (k := 3) rfl e_252.symm (by decide) rfl (fun ls hl => ?_)
          refine lv_goto (tgt := 17) hx hb dX9_peakAhead_104 (by decide) ?_
          exact (hWW _ _ _).mp (ih x_251 z_249 (g + 1) H locs ls (by omega) (by omega) (by omega) (by omega) hG hS (lv_sub hl [0, 1, 4, 5, 6, 7] rfl))
        · skip
          have c_217 : a3.toInt < 0 := q_nle c_217
          refine lv_aload_n hx hb dX9_peakAhead_36 rfl (lv_at hl 3 rfl) ?_
          refine lv_pc (pc2 := 37) rfl ?_
          refine va_get (D := D) (ci := 8) (v := .ref r_178) (C := RX9) (T := TX9) (N := 18) hx hb hts in9 hown hK (va_one at_202) 0 rfl rfl 6 (by decide) (hts (.fieldLink RX9 39 "RiverModel" "skyA" "LRiverModel$Sky;") (List.mem_of_getElem? (i := 14) rfl)) (fun _ h9 => h9) rfl dX9_peakAhead_37 ?_
          refine lv_iload hx hb dX9_peakAhead_40 (lv_at hl 0 rfl) ?_
          obtain ⟨r_253, r_255, at_257, h_254, h_256⟩ := gF_o4 hG h_179
          refine ty_calli ((W.runV (As := [.int v_214]) (rest := []) ⟨hx, hb, hml, hown, hts⟩ (s_X6_rainIn l D t cI cL cC gC gE g gW gA r_178 v_214 h_179) (cwV 1 hts gu_X9_peakAhead_X6_rainIn_357 rfl rfl rfl (by decide +kernel) ⟨Nat.le_of_ble_eq_true rfl, Nat.le_of_ble_eq_true rfl⟩) (tP_V hG hE at_257 rfl) rfl rfl hl.1 rfl (lv_room (Nat.le_of_ble_eq_true rfl)) dX9_peakAhead_42 ⟨Nat.le_of_ble_eq_true rfl, Nat.le_of_ble_eq_true rfl⟩)) hS (fun k h => by simp [wr0] at h) (fun r_258 H locs hp_259 hG hS o_260 => ?_)
          have at_202 := va_at.keptC at_202 o_260 k_a0 rfl
          have at_216 := va_at.keptC at_216 o_260 h_187 rfl
          have at_257 := va_at.keptC at_257 o_260 h_179 rfl
          refine lv_goto (tgt := 58) hx hb dX9_peakAhead_45 (by decide) ?_
          refine lv_istore (lv' := [(8, .int r_258), (7, .int v_214), (6, .int ya), (4, .long yg), (0, .ref a0), (1, .int a1), (2, .int a2), (3, .int a3)]) hx hb dX9_peakAhead_58 hl (by decide) rfl (fun ls hl => ?_)
          refine lv_aload_n hx hb dX9_peakAhead_60 rfl (lv_at hl 4 rfl) ?_
          refine va_get (D := D) (ci := 8) (v := .ref r_186) (C := RX9) (T := TX9) (N := 18) hx hb hts in9 hown hK (va_one at_202) 0 rfl rfl 10 (by decide) (hts (.fieldLink RX9 57 "RiverModel" "trial" "LRiverModel$Course;") (List.mem_of_getElem? (i := 1) rfl)) (fun _ h9 => h9) rfl dX9_peakAhead_61 ?_
          refine lv_aload_n hx hb dX9_peakAhead_64 rfl (lv_at hl 4 rfl) ?_
          refine lv_pc (pc2 := 65) rfl ?_
          refine va_get (D := D) (ci := 8) (v := .ref r_170) (C := RX9) (T := TX9) (N := 18) hx hb hts in9 hown hK (va_one at_202) 0 rfl rfl 1 (by decide) (hts (.fieldLink RX9 19 "RiverModel" "model" "LRiverModel$Model;") (List.mem_of_getElem? (i := 13) rfl)) (fun _ h9 => h9) rfl dX9_peakAhead_65 ?_
          refine lv_iload hx hb dX9_peakAhead_68 (lv_at hl 0 rfl) ?_
          refine lv_aload_n hx hb dX9_peakAhead_70 rfl (lv_at hl 4 rfl) ?_
          refine va_get (D := D) (ci := 8) (v := .ref r_178) (C := RX9) (T := TX9) (N := 18) hx hb hts in9 hown hK (va_one at_202) 0 rfl rfl 6 (by decide) (hts (.fieldLink RX9 39 "RiverModel" "skyA" "LRiverModel$Sky;") (List.mem_of_getElem? (i := 14) rfl)) (fun _ h9 => h9) rfl dX9_peakAhead_71 ?_
          refine lv_iload hx hb dX9_peakAhead_74 (lv_at hl 1 rfl) ?_
          refine ty_calli ((W.runV (As := [.int v_214]) (rest := [.int r_258, .ref r_170, .ref r_186]) ⟨hx, hb, hml, hown, hts⟩ (s_X6_tempIn l D t cI cL cC gC gE g gW gA r_178 v_214 h_179) (cwV 1 hts gu_X9_peakAhead_X6_tempIn_360 rfl rfl rfl (by decide +kernel) ⟨Nat.le_of_ble_eq_true rfl, Nat.le_of_ble_eq_true rfl⟩) (tP_V hG hE at_257 rfl) rfl rfl hl.1 rfl (lv_room (Nat.le_of_ble_eq_true rfl)) dX9_peakAhead_76 ⟨Nat.le_of_ble_eq_true rfl, Nat.le_of_ble_eq_true rfl⟩)) hS (fun k h => by simp [wr0] at h) (fun r_261 H locs hp_262 hG hS o_263 => ?_)
          have at_202 := va_at.keptC at_202 o_263 k_a0 rfl
          have at_216 := va_at.keptC at_216 o_263 h_187 rfl
          have at_257 := va_at.keptC at_257 o_263 h_179 rfl
          refine ty_callv ((W.runV (As := [.ref r_170, .int r_258, .int r_261]) (rest := []) ⟨hx, hb, hml, hown, hts⟩ (s_X0_goHour l D t cI cL cC gC gE g gW gA r_186 r_170 r_258 r_261 (by omega) h_187 h_171) (cwV 3 hts gu_X9_peakAhead_X0_goHour_363 rfl rfl rfl (by decide +kernel) ⟨Nat.le_of_ble_eq_true rfl, Nat.le_of_ble_eq_true rfl⟩) (tP_V hG hE at_216 rfl) rfl rfl hl.1 rfl (lv_room (Nat.le_of_ble_eq_true rfl)) dX9_peakAhead_79 ⟨Nat.le_of_ble_eq_true rfl, Nat.le_of_ble_eq_true rfl⟩)) hS (fun _ h => h) (fun H locs hp_265 hG hS o_266 => ?_)
          have at_202 := va_at.keptC at_202 o_266 k_a0 rfl
          have at_257 := va_at.keptC at_257 o_266 h_179 rfl
          refine lv_lload hx hb dX9_peakAhead_82 (lv_at hl 3 rfl) ?_
          refine lv_pc (pc2 := 84) rfl ?_
          refine lv_aload_n hx hb dX9_peakAhead_84 rfl (lv_at hl 4 rfl) ?_
          refine va_get (D := D) (ci := 8) (v := .ref r_194) (C := RX9) (T := TX9) (N := 18) hx hb hts in9 hown hK (va_one at_202) 0 rfl rfl 14 (by decide) (hts (.fieldLink RX9 74 "RiverModel" "gauges" "LRiverModel$Gauges;") (List.mem_of_getElem? (i := 22) rfl)) (fun _ h9 => h9) rfl dX9_peakAhead_85 ?_
          refine lv_aload_n hx hb dX9_peakAhead_88 rfl (lv_at hl 4 rfl) ?_
          refine va_get (D := D) (ci := 8) (v := .ref r_186) (C := RX9) (T := TX9) (N := 18) hx hb hts in9 hown hK (va_one at_202) 0 rfl rfl 10 (by decide) (hts (.fieldLink RX9 57 "RiverModel" "trial" "LRiverModel$Course;") (List.mem_of_getElem? (i := 1) rfl)) (fun _ h9 => h9) rfl dX9_peakAhead_89 ?_
          refine lv_iload_n hx hb dX9_peakAhead_92 rfl (lv_at hl 5 rfl) ?_
          obtain ⟨r_267, r_269, r_271, at_273, h_268, h_270, h_272⟩ := gF_o6 hG h_195
          refine ty_calll ((W.runV (As := [.ref r_186, .int a1]) (rest := [.long yg]) ⟨hx, hb, hml, hown, hts⟩ (s_X1_reading l D t cI cL cC gC gE (g + 1) gW gA r_194 r_186 a1 h_195 h_187) (cwV 2 hts gu_X9_peakAhead_X1_reading_215 rfl rfl rfl (by decide +kernel) ⟨Nat.le_of_ble_eq_true rfl, Nat.le_of_ble_eq_true rfl⟩) (tP_V hG hE at_273 rfl) rfl rfl hl.1 rfl (lv_room (Nat.le_of_ble_eq_true rfl)) dX9_peakAhead_93 ⟨Nat.le_of_ble_eq_true rfl, Nat.le_of_ble_eq_true rfl⟩)) hS (fun k h => by simp [wr0] at h) (fun z_274 H locs hp_275 hG hS o_276 => ?_)
          have at_202 := va_at.keptC at_202 o_276 k_a0 rfl
          have at_257 := va_at.keptC at_257 o_276 h_179 rfl
          have at_273 := va_at.keptC at_273 o_276 h_195 rfl
          refine va_mmax_long hx hb (by rw [hml]; exact hl.1.symm) hown (hts (.methodLink RX9 374 Lib.MathLoose.max_long.x) (List.mem_of_getElem? (i := 27) rfl)) (hts (.static Lib.MathLoose.max_long.x) (List.mem_of_getElem? (i := 28) rfl)) (hts (.initialized "java/lang/Math") (List.mem_of_getElem? (i := 29) rfl)) (hts (.code Lib.MathLoose.max_long.x Lib.MathLoose.max_long.code 4 (some .long)) (List.mem_of_getElem? (i := 30) rfl)) (Nat.le_of_ble_eq_true rfl) (Nat.le_of_ble_eq_true rfl) (Nat.zero_le _) (Nat.zero_le _) dX9_peakAhead_96 ?_
          refine lv_topl (fun z_277 e_278 => ?_)
          refine lv_lstore (lv' := [(4, .long z_277), (8, .int r_258), (7, .int v_214), (6, .int ya), (0, .ref a0), (1, .int a1), (2, .int a2), (3, .int a3)]) hx hb dX9_peakAhead_99 hl (by decide) rfl (fun ls hl => ?_)
          refine lv_pc (pc2 := 101) rfl ?_
          obtain ⟨x_279, e_280⟩ : ∃ y : Int32, y = ya + Int32.ofInt 1 := ⟨_, rfl⟩
          have i_x_279 : x_279.toInt = ya.toInt + 1 := by rw [e_280, show Int32.ofInt 1 = 1 by decide]; exact (q_add (by rw [show (1 : Int32).toInt = 1 by decide]; omega) (by rw [show (1 : Int32).toInt = 1 by decide]; omega)).trans (by rw [show (1 : Int32).toInt = 1 by decide])
          refine lv_iinc (v := x_279) (lv' := [(6, .int x_279), (4, .long z_277), (8, .int r_258), (7, .int v_214), (0, .ref a0), (1, .int a1), (2, .int a2), (3, .int a3)]) hx hb dX9_peakAhead_101 hl (k := 3) rfl e_280.symm (by decide) rfl (fun ls hl => ?_)
          refine lv_goto (tgt := 17) hx hb dX9_peakAhead_104 (by decide) ?_
          exact (hWW _ _ _).mp (ih x_279 z_277 (g + 1) H locs ls (by omega) (by omega) (by omega) (by omega) hG hS (lv_sub hl [0, 1, 4, 5, 6, 7] rfl))
  have hz_ya : (0 : Int32).toInt = 0 := by decide
  exact loop (24 - 0 : Int).toNat 0 0 G H locs ls (by omega) (by omega) (by omega) (by omega) hG hS (lv_sub hl [0, 1, 2, 3, 4, 5] rfl)

def uX9_weightAbove : List Cond := .code yX9_weightAbove cX9_weightAbove 8 (some .int) :: ([.fieldLink RX9 88 "RiverModel" "worlds" "LRiverModel$Worlds;", .fieldLink RX9 259 "RiverModel$Worlds" "weights" "[I", .methodLink RX9 275 yX9_peakAhead, .instanceMethod yX9_peakAhead, .selects RX9 yX9_peakAhead yX9_peakAhead, .initialized RX9, .code yX9_peakAhead cX9_peakAhead 9 (some .long), .fieldLink RX9 57 "RiverModel" "trial" "LRiverModel$Course;", .fieldLink RX9 53 "RiverModel" "now" "LRiverModel$Course;", .methodLink RX9 330 yX0_copyFrom, .instanceMethod yX0_copyFrom, .selects RX0 yX0_copyFrom yX0_copyFrom, .initialized RX0, .fieldLink RX9 144 "RiverModel$Course" "hours" "I", .methodLink RX9 371 yX8_rainAhead, .instanceMethod yX8_rainAhead, .selects RX8 yX8_rainAhead yX8_rainAhead, .initialized RX8, .fieldLink RX9 19 "RiverModel" "model" "LRiverModel$Model;", .fieldLink RX9 39 "RiverModel" "skyA" "LRiverModel$Sky;", .methodLink RX9 360 yX6_tempIn, .instanceMethod yX6_tempIn, .selects RX6 yX6_tempIn yX6_tempIn, .initialized RX6, .methodLink RX9 363 yX0_goHour, .instanceMethod yX0_goHour, .selects RX0 yX0_goHour yX0_goHour, .fieldLink RX9 74 "RiverModel" "gauges" "LRiverModel$Gauges;", .methodLink RX9 215 yX1_reading, .instanceMethod yX1_reading, .selects RX1 yX1_reading yX1_reading, .initialized RX1, .methodLink RX9 374 Lib.MathLoose.max_long.x, .static Lib.MathLoose.max_long.x, .initialized "java/lang/Math", .code Lib.MathLoose.max_long.x Lib.MathLoose.max_long.code 4 (some .long), .methodLink RX9 357 yX6_rainIn, .instanceMethod yX6_rainIn, .selects RX6 yX6_rainIn yX6_rainIn, .code yX0_copyFrom cX0_copyFrom 2 none, .fieldLink RX0 9 "RiverModel$Course" "held" "[J", .methodLink RX0 54 arraycopyName, .native arraycopyName, .static arraycopyName, .initialized "java/lang/System", .fieldLink RX0 15 "RiverModel$Course" "moved" "[J", .fieldLink RX0 18 "RiverModel$Course" "openings" "[I", .fieldLink RX0 22 "RiverModel$Course" "due" "[J", .fieldLink RX0 25 "RiverModel$Course" "rained" "J", .fieldLink RX0 29 "RiverModel$Course" "air" "J", .fieldLink RX0 32 "RiverModel$Course" "sea" "J", .fieldLink RX0 35 "RiverModel$Course" "hours" "I", .code yX8_rainAhead cX8_rainAhead 3 (some .int), .static yX9_isNoWorld, .static yX9_isOutside, .fieldLink RX8 18 "RiverModel$Worlds" "rains" "[I", .code yX9_isNoWorld cX9_isNoWorld 1 (some .boolean), .code yX9_isOutside cX9_isOutside 3 (some .boolean), .code yX6_tempIn cX6_tempIn 2 (some .int), .fieldLink RX6 15 "RiverModel$Sky" "temps" "[I", .code yX0_goHour cX0_goHour 7 none, .methodLink RX0 72 yX0_bringDue, .instanceMethod yX0_bringDue, .selects RX0 yX0_bringDue yX0_bringDue, .fieldLink RX0 75 "RiverModel$Model" "many" "I", .methodLink RX0 78 yX0_amountOf, .instanceMethod yX0_amountOf, .selects RX0 yX0_amountOf yX0_amountOf, .methodLink RX0 82 yX0_move, .instanceMethod yX0_move, .selects RX0 yX0_move yX0_move, .code yX0_bringDue cX0_bringDue 3 none, .code yX0_amountOf cX0_amountOf 11 (some .long), .methodLink RX0 86 yX4_cell, .instanceMethod yX4_cell, .selects RX4 yX4_cell yX4_cell, .initialized RX4, .static yX9_isNoStore, .methodLink RX0 110 yX4_gateOf, .instanceMethod yX4_gateOf, .selects RX4 yX4_gateOf yX4_gateOf, .methodLink RX0 113 yX0_openingOf, .instanceMethod yX0_openingOf, .selects RX0 yX0_openingOf yX0_openingOf, .methodLink RX0 107 Lib.MathLoose.min_long.x, .static Lib.MathLoose.min_long.x, .code Lib.MathLoose.min_long.x Lib.MathLoose.min_long.code 4 (some .long), .methodLink RX0 94 yX0_leakOf, .static yX0_leakOf, .constantLong RX0 117 (100), .methodLink RX0 98 yX4_capacityOf, .instanceMethod yX4_capacityOf, .selects RX4 yX4_capacityOf yX4_capacityOf, .methodLink RX0 101 Lib.MathLoose.max_long.x, .constantLong RX0 119 (10), .code yX4_cell cX4_cell 3 (some .int), .fieldLink RX4 9 "RiverModel$Model" "cells" "[I", .code yX9_isNoStore cX9_isNoStore 1 (some .boolean), .code yX4_gateOf cX4_gateOf 3 (some .int), .fieldLink RX4 28 "RiverModel$Model" "gates" "I", .fieldLink RX4 18 "RiverModel$Model" "gateItems" "[I", .code yX0_openingOf cX0_openingOf 2 (some .long), .static yX9_isNoGate, .code yX9_isNoGate cX9_isNoGate 1 (some .boolean), .code yX0_leakOf cX0_leakOf 8 (some .long), .code yX4_capacityOf cX4_capacityOf 2 (some .int), .methodLink RX4 66 yX4_hasStore, .instanceMethod yX4_hasStore, .selects RX4 yX4_hasStore yX4_hasStore, .fieldLink RX4 15 "RiverModel$Model" "storeItems" "[I", .methodLink RX4 73 yX4_cell, .code yX4_hasStore cX4_hasStore 2 (some .boolean), .code yX0_move cX0_move 8 none, .methodLink RX0 124 yX0_send, .instanceMethod yX0_send, .selects RX0 yX0_send yX0_send, .code yX0_send cX0_send 5 none, .code yX1_reading cX1_reading 4 (some .long), .methodLink RX1 35 yX1_isSet, .instanceMethod yX1_isSet, .selects RX1 yX1_isSet yX1_isSet, .fieldLink RX1 15 "RiverModel$Gauges" "places" "[I", .fieldLink RX1 9 "RiverModel$Gauges" "whats" "[I", .fieldLink RX1 50 "RiverModel$Course" "held" "[J", .static yX9_isNoItem, .fieldLink RX1 41 "RiverModel$Course" "moved" "[J", .code yX1_isSet cX1_isSet 2 (some .boolean), .code yX9_isNoItem cX9_isNoItem 1 (some .boolean), .code yX6_rainIn cX6_rainIn 2 (some .int), .fieldLink RX6 9 "RiverModel$Sky" "rains" "[I"] ++ wsX90 ++ wsX80 ++ wsX00 ++ wsX60 ++ wsX40 ++ wsX10)
set_option maxRecDepth 20000 in
theorem gu_X9_weightAbove_X9_peakAhead_275 : GoodIn uX9_weightAbove (wsV RX9 275 RX9 yX9_peakAhead uX9_peakAhead) := goodIn_r _ [3, 4, 5, 6, 7, 8, 9, 10, 11, 12, 13, 14, 1, 15, 16, 17, 18, 19, 20, 21, 22, 23, 24, 25, 26, 27, 28, 29, 30, 31, 32, 33, 34, 35, 36, 37, 38, 39, 40, 41, 42, 43, 44, 45, 46, 47, 48, 49, 50, 51, 52, 53, 6, 54, 55, 56, 57, 58, 59, 60, 61, 62, 63, 64, 65, 66, 67, 68, 69, 70, 71, 72, 73, 74, 75, 76, 77, 78, 79, 80, 81, 82, 83, 84, 85, 86, 87, 88, 89, 90, 91, 92, 93, 94, 95, 96, 97, 98, 99, 100, 101, 102, 103, 104, 105, 106, 107, 108, 109, 110, 111, 112, 113, 114, 115, 116, 117, 118, 119, 120, 121, 122, 123, 124, 125, 126, 127, 128, 129, 130, 131, 132, 133, 134, 135, 136, 137, 138, 139, 140, 141, 142, 143, 144, 145, 146, 147, 148, 152, 153, 154, 155, 156, 157, 158, 159, 149, 150, 151, 160, 161, 162, 163, 164, 165, 166, 167, 168, 169, 170, 171] rfl (by decide +kernel)
set_option maxHeartbeats 4000000 in
set_option maxRecDepth 100000 in
theorem s_X9_weightAbove (l : Launch) (D : va_G) (t : Nat → Nat) (cI cL cC : ClassId) (gC : Int32) (gE : Int32) (G : Nat) (gW : Nat → Int32) (gA : Nat → Int32) (a0 : Nat) (a1 : Int32) (a2 : Int32) (a3 : Int64) (h24 : a2.toInt ≤ 24) (hGb : G ≤ 150000000) (k_a0 : t a0 = 1) : tM l yX9_weightAbove uX9_weightAbove 5 127 D (gF cI cL cC gC gE G gW gA) (gF cI cL cC gC gE (G + 96) gW gA) t cI cL cC [.ref a0, .int a1, .int a2, .long a3] wrC (pI (fun r => True)) := by
  refine tM.ofW (cc := cX9_weightAbove) (maxL := 8) (ret := (some .int)) (by decide) rfl (Nat.le_of_ble_eq_true rfl) ?_
  intro p e s m below meth c hx hb hr hml hown hts hlk H locs hG hK hE hS ls hl
  have hl : lv_has ls 8 [(0, .ref a0), (1, .int a1), (2, .int a2), (3, .long a3)] := hl
  have in9 : ∀ w ∈ wsX90, w ∈ uX9_weightAbove := fun w h => List.mem_cons_of_mem _ (List.mem_append_left _ (List.mem_append_left _ (List.mem_append_left _ (List.mem_append_left _ (List.mem_append_left _ (List.mem_append_right _ h))))))
  have in8 : ∀ w ∈ wsX80, w ∈ uX9_weightAbove := fun w h => List.mem_cons_of_mem _ (List.mem_append_left _ (List.mem_append_left _ (List.mem_append_left _ (List.mem_append_left _ (List.mem_append_right _ h)))))
  refine lv_iconst (v := 0) hx hb dX9_weightAbove_0 (by decide) ?_
  refine lv_istore (lv' := [(5, .int 0), (0, .ref a0), (1, .int a1), (2, .int a2), (3, .long a3)]) hx hb dX9_weightAbove_1 hl (by decide) rfl (fun ls hl => ?_)
  refine lv_iconst (v := 0) hx hb dX9_weightAbove_3 (by decide) ?_
  refine lv_istore (lv' := [(6, .int 0), (5, .int 0), (0, .ref a0), (1, .int a1), (2, .int a2), (3, .long a3)]) hx hb dX9_weightAbove_4 hl (by decide) rfl (fun ls hl => ?_)
  refine lv_pc (pc2 := 6) rfl ?_
  refine lp_gen (fun WW hWW => ?_)
  have kx : ∀ (yw : Int32) (ys : Int32) (g : Nat) (H1 : Heap) (locs1 : List Loc) (ls1 : Array Slot), 0 ≤ yw.toInt → yw.toInt ≤ 4 → (g : Int) + 24 * (4 - yw.toInt) ≤ (G : Int) + 96 → tG D (gF cI cL cC gC gE g gW gA) t H1 → tF t wrC s.heap H1 locs1 → lv_has ls1 8 [(6, .int yw), (5, .int ys), (0, .ref a0), (1, .int a1), (2, .int a2), (3, .long a3)] → WW H1 locs1 (F0 m 55 ls1 []) := by
    intro yw ys g H locs ls v0 v1 v2 hG hS hl
    refine (hWW _ _ _).mpr ?_
    refine lv_iload hx hb dX9_weightAbove_55 (lv_at hl 1 rfl) ?_
    exact ty_iret hx hb hr hlk (hG.weak (fun _ _ => gF_mono (by omega))) hS True.intro dX9_weightAbove_57
  have loop : ∀ (k : Nat) (yw : Int32) (ys : Int32) (g : Nat) (H1 : Heap) (locs1 : List Loc) (ls1 : Array Slot), 4 - yw.toInt ≤ (k : Int) → 0 ≤ yw.toInt → yw.toInt ≤ 4 → (g : Int) + 24 * (4 - yw.toInt) ≤ (G : Int) + 96 → tG D (gF cI cL cC gC gE g gW gA) t H1 → tF t wrC s.heap H1 locs1 → lv_has ls1 8 [(6, .int yw), (5, .int ys), (0, .ref a0), (1, .int a1), (2, .int a2), (3, .long a3)] → WW H1 locs1 (F0 m 6 ls1 []) := by
    intro k
    induction k with
    | zero =>
      intro yw ys g H locs ls hk v0 v1 v2 hG hS hl
      refine (hWW _ _ _).mpr ?_
      refine lv_iload hx hb dX9_weightAbove_6 (lv_at hl 0 rfl) ?_
      refine lv_pc (pc2 := 8) rfl ?_
      refine lv_iconst (v := 4) hx hb dX9_weightAbove_8 (by decide) ?_
      refine lv_icmp_ge (tgt := 55) hx hb dX9_weightAbove_9 (by decide) (fun c_1 => ?_) (fun c_1 => ?_)
      · skip
        have c_1 : 4 ≤ yw.toInt := q_le c_1
        exact (hWW _ _ _).mp (kx yw ys g H locs ls (by omega) (by omega) (by omega) hG hS (lv_sub hl [0, 1, 2, 3, 4, 5] rfl))
      · skip
        have c_1 : yw.toInt < 4 := q_nle c_1
        refine lv_aload_n hx hb dX9_weightAbove_12 rfl (lv_at hl 2 rfl) ?_
        obtain ⟨r_2, r_4, r_6, r_8, v_10, v_11, r_12, r_14, r_16, r_18, r_20, r_22, r_24, v_26, r_28, r_30, r_32, r_34, at_36, h_3, h_5, h_7, h_9, h_13, h_15, h_17, h_19, h_21, h_23, h_25, h_27, h_29, h_31, h_33, h_35⟩ := gF_o1 hG k_a0
        refine va_get (D := D) (ci := 8) (v := .ref r_32) (C := RX9) (T := TX9) (N := 18) hx hb hts in9 hown hK (va_one at_36) 0 rfl rfl 16 (by decide) (hts (.fieldLink RX9 88 "RiverModel" "worlds" "LRiverModel$Worlds;") (List.mem_of_getElem? (i := 1) rfl)) (fun _ h9 => h9) rfl dX9_weightAbove_13 ?_
        obtain ⟨r_37, r_39, r_41, at_43, h_38, h_40, h_42⟩ := gF_o8 hG h_33
        refine va_get (D := D) (ci := 7) (v := .ref r_37) (C := RX8) (T := TX8) (N := 3) hx hb hts in8 hown hK (va_one at_43) 0 rfl rfl 0 (by decide) (hts (.fieldLink RX9 259 "RiverModel$Worlds" "weights" "[I") (List.mem_of_getElem? (i := 2) rfl)) (fun _ h9 => h9) rfl dX9_weightAbove_16 ?_
        refine lv_iload hx hb dX9_weightAbove_19 (lv_at hl 0 rfl) ?_
        obtain ⟨f_44, at_45, h_46⟩ := gF_o29 hG h_38
        have b_47 : vp_in yw 4 := (q_in (by omega) (by omega))
        refine va_iald hx hb hK (va_one at_45) 0 0 rfl rfl b_47 dX9_weightAbove_21 ?_
        refine lv_topi (fun x_48 e_49 => ?_)
        refine lv_istore (lv' := [(7, .int x_48), (6, .int yw), (5, .int ys), (0, .ref a0), (1, .int a1), (2, .int a2), (3, .long a3)]) hx hb dX9_weightAbove_22 hl (by decide) rfl (fun ls hl => ?_)
        refine lv_pc (pc2 := 24) rfl ?_
        refine lv_iload hx hb dX9_weightAbove_24 (lv_at hl 0 rfl) ?_
        refine lv_if_le (tgt := 49) hx hb dX9_weightAbove_26 (by decide) (fun c_50 => ?_) (fun c_50 => ?_)
        · skip
          have c_50 : x_48.toInt ≤ 0 := q_le c_50
          obtain ⟨x_51, e_52⟩ : ∃ y : Int32, y = yw + Int32.ofInt 1 := ⟨_, rfl⟩
          have i_x_51 : x_51.toInt = yw.toInt + 1 := by rw [e_52, show Int32.ofInt 1 = 1 by decide]; exact (q_add (by rw [show (1 : Int32).toInt = 1 by decide]; omega) (by rw [show (1 : Int32).toInt = 1 by decide]; omega)).trans (by rw [show (1 : Int32).toInt = 1 by decide])
          refine lv_iinc (v := x_51) (lv' := [(6, .int x_51), (7, .int x_48), (5, .int ys), (0, .ref a0), (1, .int a1), (2, .int a2), (3, .long a3)]) hx hb dX9_weightAbove_49 hl (k := 1) rfl e_52.symm (by decide) rfl (fun ls hl => ?_)
          refine lv_goto (tgt := 6) hx hb dX9_weightAbove_52 (by decide) ?_
          exfalso; omega
        · skip
          have c_50 : 0 < x_48.toInt := q_nle c_50
          refine lv_aload_n hx hb dX9_weightAbove_29 rfl (lv_at hl 3 rfl) ?_
          refine lv_iload_n hx hb dX9_weightAbove_30 rfl (lv_at hl 4 rfl) ?_
          refine lv_iload_n hx hb dX9_weightAbove_31 rfl (lv_at hl 5 rfl) ?_
          refine lv_iload hx hb dX9_weightAbove_32 (lv_at hl 1 rfl) ?_
          refine lv_pc (pc2 := 34) rfl ?_
          refine ty_calll ((W.runV (As := [.int a1, .int a2, .int yw]) (rest := []) ⟨hx, hb, hml, hown, hts⟩ (s_X9_peakAhead l D t cI cL cC gC gE g gW gA a0 a1 a2 yw (by omega) (by omega) k_a0) (cwV 3 hts gu_X9_weightAbove_X9_peakAhead_275 rfl rfl rfl (by decide +kernel) ⟨Nat.le_of_ble_eq_true rfl, Nat.le_of_ble_eq_true rfl⟩) (tP_V hG hE at_36 rfl) rfl rfl hl.1 rfl (lv_room (Nat.le_of_ble_eq_true rfl)) dX9_weightAbove_34 ⟨Nat.le_of_ble_eq_true rfl, Nat.le_of_ble_eq_true rfl⟩)) hS (fun _ h => h) (fun z_53 H locs hp_54 hG hS o_55 => ?_)
          have at_36 := va_at.keptC at_36 o_55 k_a0 rfl
          have at_43 := va_at.keptC at_43 o_55 h_33 rfl
          have at_45 := va_at.keptC at_45 o_55 h_38 rfl
          refine lv_lload_n hx hb dX9_weightAbove_37 rfl (lv_at hl 6 rfl) ?_
          refine W.lcmp hx hb dX9_weightAbove_38 ?_
          refine lv_if_le (tgt := 49) hx hb dX9_weightAbove_39 (by decide) (fun c_56 => ?_) (fun c_56 => ?_)
          · skip
            have c_56 : z_53.toInt ≤ a3.toInt := q_cmp_le c_56
            obtain ⟨x_57, e_58⟩ : ∃ y : Int32, y = yw + Int32.ofInt 1 := ⟨_, rfl⟩
            have i_x_57 : x_57.toInt = yw.toInt + 1 := by rw [e_58, show Int32.ofInt 1 = 1 by decide]; exact (q_add (by rw [show (1 : Int32).toInt = 1 by decide]; omega) (by rw [show (1 : Int32).toInt = 1 by decide]; omega)).trans (by rw [show (1 : Int32).toInt = 1 by decide])
            refine lv_iinc (v := x_57) (lv' := [(6, .int x_57), (7, .int x_48), (5, .int ys), (0, .ref a0), (1, .int a1), (2, .int a2), (3, .long a3)]) hx hb dX9_weightAbove_49 hl (k := 1) rfl e_58.symm (by decide) rfl (fun ls hl => ?_)
            refine lv_goto (tgt := 6) hx hb dX9_weightAbove_52 (by decide) ?_
            exfalso; omega
          · skip
            have c_56 : a3.toInt < z_53.toInt := q_cmp_nle c_56
            refine lv_iload hx hb dX9_weightAbove_42 (lv_at hl 2 rfl) ?_
            refine lv_iload hx hb dX9_weightAbove_44 (lv_at hl 0 rfl) ?_
            refine lv_pc (pc2 := 46) rfl ?_
            refine lv_iadd hx hb dX9_weightAbove_46 ?_
            refine lv_topi (fun x_59 e_60 => ?_)
            refine lv_istore (lv' := [(5, .int x_59), (7, .int x_48), (6, .int yw), (0, .ref a0), (1, .int a1), (2, .int a2), (3, .long a3)]) hx hb dX9_weightAbove_47 hl (by decide) rfl (fun ls hl => ?_)
            obtain ⟨x_61, e_62⟩ : ∃ y : Int32, y = yw + Int32.ofInt 1 := ⟨_, rfl⟩
            have i_x_61 : x_61.toInt = yw.toInt + 1 := by rw [e_62, show Int32.ofInt 1 = 1 by decide]; exact (q_add (by rw [show (1 : Int32).toInt = 1 by decide]; omega) (by rw [show (1 : Int32).toInt = 1 by decide]; omega)).trans (by rw [show (1 : Int32).toInt = 1 by decide])
            refine lv_iinc (v := x_61) (lv' := [(6, .int x_61), (5, .int x_59), (7, .int x_48), (0, .ref a0), (1, .int a1), (2, .int a2), (3, .long a3)]) hx hb dX9_weightAbove_49 hl (k := 2) rfl e_62.symm (by decide) rfl (fun ls hl => ?_)
            refine lv_goto (tgt := 6) hx hb dX9_weightAbove_52 (by decide) ?_
            exfalso; omega
    | succ k ih =>
      intro yw ys g H locs ls hk v0 v1 v2 hG hS hl
      refine (hWW _ _ _).mpr ?_
      refine lv_iload hx hb dX9_weightAbove_6 (lv_at hl 0 rfl) ?_
      refine lv_iconst (v := 4) hx hb dX9_weightAbove_8 (by decide) ?_
      refine lv_icmp_ge (tgt := 55) hx hb dX9_weightAbove_9 (by decide) (fun c_63 => ?_) (fun c_63 => ?_)
      · skip
        have c_63 : 4 ≤ yw.toInt := q_le c_63
        exact (hWW _ _ _).mp (kx yw ys g H locs ls (by omega) (by omega) (by omega) hG hS (lv_sub hl [0, 1, 2, 3, 4, 5] rfl))
      · skip
        have c_63 : yw.toInt < 4 := q_nle c_63
        refine lv_aload_n hx hb dX9_weightAbove_12 rfl (lv_at hl 2 rfl) ?_
        refine lv_pc (pc2 := 13) rfl ?_
        obtain ⟨r_64, r_66, r_68, r_70, v_72, v_73, r_74, r_76, r_78, r_80, r_82, r_84, r_86, v_88, r_90, r_92, r_94, r_96, at_98, h_65, h_67, h_69, h_71, h_75, h_77, h_79, h_81, h_83, h_85, h_87, h_89, h_91, h_93, h_95, h_97⟩ := gF_o1 hG k_a0
        refine va_get (D := D) (ci := 8) (v := .ref r_94) (C := RX9) (T := TX9) (N := 18) hx hb hts in9 hown hK (va_one at_98) 0 rfl rfl 16 (by decide) (hts (.fieldLink RX9 88 "RiverModel" "worlds" "LRiverModel$Worlds;") (List.mem_of_getElem? (i := 1) rfl)) (fun _ h9 => h9) rfl dX9_weightAbove_13 ?_
        obtain ⟨r_99, r_101, r_103, at_105, h_100, h_102, h_104⟩ := gF_o8 hG h_95
        refine va_get (D := D) (ci := 7) (v := .ref r_99) (C := RX8) (T := TX8) (N := 3) hx hb hts in8 hown hK (va_one at_105) 0 rfl rfl 0 (by decide) (hts (.fieldLink RX9 259 "RiverModel$Worlds" "weights" "[I") (List.mem_of_getElem? (i := 2) rfl)) (fun _ h9 => h9) rfl dX9_weightAbove_16 ?_
        refine lv_iload hx hb dX9_weightAbove_19 (lv_at hl 0 rfl) ?_
        obtain ⟨f_106, at_107, h_108⟩ := gF_o29 hG h_100
        have b_109 : vp_in yw 4 := (q_in (by omega) (by omega))
        refine va_iald hx hb hK (va_one at_107) 0 0 rfl rfl b_109 dX9_weightAbove_21 ?_
        refine lv_topi (fun x_110 e_111 => ?_)
        refine lv_istore (lv' := [(7, .int x_110), (6, .int yw), (5, .int ys), (0, .ref a0), (1, .int a1), (2, .int a2), (3, .long a3)]) hx hb dX9_weightAbove_22 hl (by decide) rfl (fun ls hl => ?_)
        refine lv_iload hx hb dX9_weightAbove_24 (lv_at hl 0 rfl) ?_
        refine lv_if_le (tgt := 49) hx hb dX9_weightAbove_26 (by decide) (fun c_112 => ?_) (fun c_112 => ?_)
        · skip
          have c_112 : x_110.toInt ≤ 0 := q_le c_112
          obtain ⟨x_113, e_114⟩ : ∃ y : Int32, y = yw + Int32.ofInt 1 := ⟨_, rfl⟩
          have i_x_113 : x_113.toInt = yw.toInt + 1 := by rw [e_114, show Int32.ofInt 1 = 1 by decide]; exact (q_add (by rw [show (1 : Int32).toInt = 1 by decide]; omega) (by rw [show (1 : Int32).toInt = 1 by decide]; omega)).trans (by rw [show (1 : Int32).toInt = 1 by decide])
          refine lv_iinc (v := x_113) (lv' := [(6, .int x_113), (7, .int x_110), (5, .int ys), (0, .ref a0), (1, .int a1), (2, .int a2), (3, .long a3)]) hx hb dX9_weightAbove_49 hl (k := 1) rfl e_114.symm (by decide) rfl (fun ls hl => ?_)
          refine lv_pc (pc2 := 52) rfl ?_
          refine lv_goto (tgt := 6) hx hb dX9_weightAbove_52 (by decide) ?_
          exact (hWW _ _ _).mp (ih x_113 ys g H locs ls (by omega) (by omega) (by omega) (by omega) hG hS (lv_sub hl [0, 2, 3, 4, 5, 6] rfl))
        · skip
          have c_112 : 0 < x_110.toInt := q_nle c_112
          refine lv_aload_n hx hb dX9_weightAbove_29 rfl (lv_at hl 3 rfl) ?_
          refine lv_iload_n hx hb dX9_weightAbove_30 rfl (lv_at hl 4 rfl) ?_
          refine lv_iload_n hx hb dX9_weightAbove_31 rfl (lv_at hl 5 rfl) ?_
          refine lv_iload hx hb dX9_weightAbove_32 (lv_at hl 1 rfl) ?_
          refine ty_calll ((W.runV (As := [.int a1, .int a2, .int yw]) (rest := []) ⟨hx, hb, hml, hown, hts⟩ (s_X9_peakAhead l D t cI cL cC gC gE g gW gA a0 a1 a2 yw (by omega) (by omega) k_a0) (cwV 3 hts gu_X9_weightAbove_X9_peakAhead_275 rfl rfl rfl (by decide +kernel) ⟨Nat.le_of_ble_eq_true rfl, Nat.le_of_ble_eq_true rfl⟩) (tP_V hG hE at_98 rfl) rfl rfl hl.1 rfl (lv_room (Nat.le_of_ble_eq_true rfl)) dX9_weightAbove_34 ⟨Nat.le_of_ble_eq_true rfl, Nat.le_of_ble_eq_true rfl⟩)) hS (fun _ h => h) (fun z_115 H locs hp_116 hG hS o_117 => ?_)
          have at_98 := va_at.keptC at_98 o_117 k_a0 rfl
          have at_105 := va_at.keptC at_105 o_117 h_95 rfl
          have at_107 := va_at.keptC at_107 o_117 h_100 rfl
          refine lv_lload_n hx hb dX9_weightAbove_37 rfl (lv_at hl 6 rfl) ?_
          refine W.lcmp hx hb dX9_weightAbove_38 ?_
          refine lv_pc (pc2 := 39) rfl ?_
          refine lv_if_le (tgt := 49) hx hb dX9_weightAbove_39 (by decide) (fun c_118 => ?_) (fun c_118 => ?_)
          · skip
            have c_118 : z_115.toInt ≤ a3.toInt := q_cmp_le c_118
            obtain ⟨x_119, e_120⟩ : ∃ y : Int32, y = yw + Int32.ofInt 1 := ⟨_, rfl⟩
            have i_x_119 : x_119.toInt = yw.toInt + 1 := by rw [e_120, show Int32.ofInt 1 = 1 by decide]; exact (q_add (by rw [show (1 : Int32).toInt = 1 by decide]; omega) (by rw [show (1 : Int32).toInt = 1 by decide]; omega)).trans (by rw [show (1 : Int32).toInt = 1 by decide])
            refine lv_iinc (v := x_119) (lv' := [(6, .int x_119), (7, .int x_110), (5, .int ys), (0, .ref a0), (1, .int a1), (2, .int a2), (3, .long a3)]) hx hb dX9_weightAbove_49 hl (k := 1) rfl e_120.symm (by decide) rfl (fun ls hl => ?_)
            refine lv_goto (tgt := 6) hx hb dX9_weightAbove_52 (by decide) ?_
            exact (hWW _ _ _).mp (ih x_119 ys (g + 24) H locs ls (by omega) (by omega) (by omega) (by omega) hG hS (lv_sub hl [0, 2, 3, 4, 5, 6] rfl))
          · skip
            have c_118 : a3.toInt < z_115.toInt := q_cmp_nle c_118
            refine lv_iload hx hb dX9_weightAbove_42 (lv_at hl 2 rfl) ?_
            refine lv_iload hx hb dX9_weightAbove_44 (lv_at hl 0 rfl) ?_
            refine lv_iadd hx hb dX9_weightAbove_46 ?_
            refine lv_topi (fun x_121 e_122 => ?_)
            refine lv_istore (lv' := [(5, .int x_121), (7, .int x_110), (6, .int yw), (0, .ref a0), (1, .int a1), (2, .int a2), (3, .long a3)]) hx hb dX9_weightAbove_47 hl (by decide) rfl (fun ls hl => ?_)
            obtain ⟨x_123, e_124⟩ : ∃ y : Int32, y = yw + Int32.ofInt 1 := ⟨_, rfl⟩
            have i_x_123 : x_123.toInt = yw.toInt + 1 := by rw [e_124, show Int32.ofInt 1 = 1 by decide]; exact (q_add (by rw [show (1 : Int32).toInt = 1 by decide]; omega) (by rw [show (1 : Int32).toInt = 1 by decide]; omega)).trans (by rw [show (1 : Int32).toInt = 1 by decide])
            refine lv_iinc (v := x_123) (lv' := [(6, .int x_123), (5, .int x_121), (7, .int x_110), (0, .ref a0), (1, .int a1), (2, .int a2), (3, .long a3)]) hx hb dX9_weightAbove_49 hl (k := 2) rfl e_124.symm (by decide) rfl (fun ls hl => ?_)
            refine lv_pc (pc2 := 52) rfl ?_
            refine lv_goto (tgt := 6) hx hb dX9_weightAbove_52 (by decide) ?_
            exact (hWW _ _ _).mp (ih x_123 x_121 (g + 24) H locs ls (by omega) (by omega) (by omega) (by omega) hG hS (lv_sub hl [0, 1, 3, 4, 5, 6] rfl))
  have hz_yw : (0 : Int32).toInt = 0 := by decide
  have hz_ys : (0 : Int32).toInt = 0 := by decide
  exact loop (4 - 0 : Int).toNat 0 0 G H locs ls (by omega) (by omega) (by omega) (by omega) hG hS (lv_sub hl [0, 1, 2, 3, 4, 5] rfl)

def uX9_changedReading : List Cond := .code yX9_changedReading cX9_changedReading 7 (some .long) :: ([.fieldLink RX9 19 "RiverModel" "model" "LRiverModel$Model;", .fieldLink RX9 39 "RiverModel" "skyA" "LRiverModel$Sky;", .fieldLink RX9 57 "RiverModel" "trial" "LRiverModel$Course;", .methodLink RX9 147 yX0_begin, .instanceMethod yX0_begin, .selects RX0 yX0_begin yX0_begin, .initialized RX0, .fieldLink RX9 74 "RiverModel" "gauges" "LRiverModel$Gauges;", .methodLink RX9 215 yX1_reading, .instanceMethod yX1_reading, .selects RX1 yX1_reading yX1_reading, .initialized RX1, .methodLink RX9 151 yX0_goHourBy, .instanceMethod yX0_goHourBy, .selects RX0 yX0_goHourBy yX0_goHourBy, .fieldLink RX9 46 "RiverModel" "startsB" "[I", .methodLink RX9 380 yX0_startFrom, .instanceMethod yX0_startFrom, .selects RX0 yX0_startFrom yX0_startFrom, .fieldLink RX9 43 "RiverModel" "skyB" "LRiverModel$Sky;", .fieldLink RX9 33 "RiverModel" "isOtherLaid" "Z", .fieldLink RX9 26 "RiverModel" "other" "LRiverModel$Model;", .code yX0_begin cX0_begin 3 none, .fieldLink RX0 15 "RiverModel$Course" "moved" "[J", .methodLink RX0 45 yJ7_fill_d0a16, .static yJ7_fill_d0a16, .initialized RJ7, .fieldLink RX0 18 "RiverModel$Course" "openings" "[I", .methodLink RX0 51 yJ7_fill_53178, .static yJ7_fill_53178, .fieldLink RX0 22 "RiverModel$Course" "due" "[J", .fieldLink RX0 25 "RiverModel$Course" "rained" "J", .fieldLink RX0 29 "RiverModel$Course" "air" "J", .fieldLink RX0 32 "RiverModel$Course" "sea" "J", .fieldLink RX0 35 "RiverModel$Course" "hours" "I", .fieldLink RX0 9 "RiverModel$Course" "held" "[J", .methodLink RX0 39 yX4_startOf, .instanceMethod yX4_startOf, .selects RX4 yX4_startOf yX4_startOf, .initialized RX4, .code yJ7_fill_d0a16 cJ7_fill_d0a16 5 none, .code yJ7_fill_53178 cJ7_fill_53178 4 none, .code yX4_startOf cX4_startOf 2 (some .int), .methodLink RX4 66 yX4_hasStore, .instanceMethod yX4_hasStore, .selects RX4 yX4_hasStore yX4_hasStore, .fieldLink RX4 15 "RiverModel$Model" "storeItems" "[I", .methodLink RX4 73 yX4_cell, .instanceMethod yX4_cell, .selects RX4 yX4_cell yX4_cell, .code yX4_hasStore cX4_hasStore 2 (some .boolean), .code yX4_cell cX4_cell 3 (some .int), .fieldLink RX4 9 "RiverModel$Model" "cells" "[I", .code yX1_reading cX1_reading 4 (some .long), .methodLink RX1 35 yX1_isSet, .instanceMethod yX1_isSet, .selects RX1 yX1_isSet yX1_isSet, .fieldLink RX1 15 "RiverModel$Gauges" "places" "[I", .fieldLink RX1 9 "RiverModel$Gauges" "whats" "[I", .initialized RX9, .static yX9_isNoStore, .fieldLink RX1 50 "RiverModel$Course" "held" "[J", .static yX9_isNoItem, .fieldLink RX1 41 "RiverModel$Course" "moved" "[J", .code yX1_isSet cX1_isSet 2 (some .boolean), .code yX9_isNoStore cX9_isNoStore 1 (some .boolean), .code yX9_isNoItem cX9_isNoItem 1 (some .boolean), .code yX0_goHourBy cX0_goHourBy 3 none, .methodLink RX0 60 yX6_rainIn, .instanceMethod yX6_rainIn, .selects RX6 yX6_rainIn yX6_rainIn, .initialized RX6, .methodLink RX0 65 yX6_tempIn, .instanceMethod yX6_tempIn, .selects RX6 yX6_tempIn yX6_tempIn, .methodLink RX0 68 yX0_goHour, .instanceMethod yX0_goHour, .selects RX0 yX0_goHour yX0_goHour, .code yX6_rainIn cX6_rainIn 2 (some .int), .static yX9_isOutside, .fieldLink RX6 9 "RiverModel$Sky" "rains" "[I", .code yX9_isOutside cX9_isOutside 3 (some .boolean), .code yX6_tempIn cX6_tempIn 2 (some .int), .fieldLink RX6 15 "RiverModel$Sky" "temps" "[I", .code yX0_goHour cX0_goHour 7 none, .methodLink RX0 72 yX0_bringDue, .instanceMethod yX0_bringDue, .selects RX0 yX0_bringDue yX0_bringDue, .fieldLink RX0 75 "RiverModel$Model" "many" "I", .methodLink RX0 78 yX0_amountOf, .instanceMethod yX0_amountOf, .selects RX0 yX0_amountOf yX0_amountOf, .methodLink RX0 82 yX0_move, .instanceMethod yX0_move, .selects RX0 yX0_move yX0_move, .code yX0_bringDue cX0_bringDue 3 none, .code yX0_amountOf cX0_amountOf 11 (some .long), .methodLink RX0 86 yX4_cell, .methodLink RX0 110 yX4_gateOf, .instanceMethod yX4_gateOf, .selects RX4 yX4_gateOf yX4_gateOf, .methodLink RX0 113 yX0_openingOf, .instanceMethod yX0_openingOf, .selects RX0 yX0_openingOf yX0_openingOf, .methodLink RX0 107 Lib.MathLoose.min_long.x, .static Lib.MathLoose.min_long.x, .initialized "java/lang/Math", .code Lib.MathLoose.min_long.x Lib.MathLoose.min_long.code 4 (some .long), .methodLink RX0 94 yX0_leakOf, .static yX0_leakOf, .constantLong RX0 117 (100), .methodLink RX0 98 yX4_capacityOf, .instanceMethod yX4_capacityOf, .selects RX4 yX4_capacityOf yX4_capacityOf, .methodLink RX0 101 Lib.MathLoose.max_long.x, .static Lib.MathLoose.max_long.x, .code Lib.MathLoose.max_long.x Lib.MathLoose.max_long.code 4 (some .long), .constantLong RX0 119 (10), .code yX4_gateOf cX4_gateOf 3 (some .int), .fieldLink RX4 28 "RiverModel$Model" "gates" "I", .fieldLink RX4 18 "RiverModel$Model" "gateItems" "[I", .code yX0_openingOf cX0_openingOf 2 (some .long), .static yX9_isNoGate, .code yX9_isNoGate cX9_isNoGate 1 (some .boolean), .code yX0_leakOf cX0_leakOf 8 (some .long), .code yX4_capacityOf cX4_capacityOf 2 (some .int), .code yX0_move cX0_move 8 none, .methodLink RX0 124 yX0_send, .instanceMethod yX0_send, .selects RX0 yX0_send yX0_send, .code yX0_send cX0_send 5 none, .code yX0_startFrom cX0_startFrom 3 none] ++ wsX90 ++ wsX00 ++ wsX40 ++ wsX10 ++ wsX60)
set_option maxRecDepth 20000 in
theorem gu_X9_changedReading_X0_begin_147 : GoodIn uX9_changedReading (wsV RX9 147 RX0 yX0_begin uX0_begin) := goodIn_r _ [4, 5, 6, 7, 23, 24, 25, 26, 27, 28, 29, 30, 31, 32, 33, 34, 35, 36, 37, 38, 39, 40, 41, 42, 43, 44, 45, 46, 47, 48, 49, 50, 51, 52, 53, 151, 152, 153, 154, 155, 156, 157, 158, 159, 160, 161, 162, 163, 164] rfl (by decide +kernel)
set_option maxRecDepth 20000 in
theorem gu_X9_changedReading_X1_reading_215 : GoodIn uX9_changedReading (wsV RX9 215 RX1 yX1_reading uX1_reading) := goodIn_r _ [9, 10, 11, 12, 54, 55, 56, 57, 12, 58, 59, 60, 61, 62, 63, 64, 65, 66, 67, 165, 166, 167, 168, 151, 152, 153, 154, 155, 156, 157, 158] rfl (by decide +kernel)
set_option maxRecDepth 20000 in
theorem gu_X9_changedReading_X0_goHourBy_151 : GoodIn uX9_changedReading (wsV RX9 151 RX0 yX0_goHourBy uX0_goHourBy) := goodIn_r _ [13, 14, 15, 7, 68, 35, 69, 70, 71, 72, 73, 74, 75, 76, 77, 78, 7, 79, 60, 80, 81, 82, 83, 84, 85, 86, 87, 88, 89, 90, 91, 92, 24, 93, 94, 95, 96, 36, 31, 97, 98, 49, 50, 40, 61, 99, 100, 101, 102, 103, 104, 105, 106, 107, 108, 109, 110, 111, 112, 113, 114, 115, 116, 117, 118, 52, 53, 66, 119, 120, 121, 122, 123, 28, 124, 125, 126, 44, 45, 46, 47, 48, 51, 127, 32, 128, 129, 130, 34, 33, 131, 151, 152, 153, 154, 155, 156, 157, 158, 169, 170, 159, 160, 161, 162, 163, 164] rfl (by decide +kernel)
set_option maxRecDepth 20000 in
theorem gu_X9_changedReading_X0_startFrom_380 : GoodIn uX9_changedReading (wsV RX9 380 RX0 yX0_startFrom uX0_startFrom) := goodIn_r _ [17, 18, 19, 7, 132, 36, 151, 152, 153, 154, 155, 156, 157, 158] rfl (by decide +kernel)
set_option maxHeartbeats 4000000 in
set_option maxRecDepth 100000 in
theorem s_X9_changedReading (l : Launch) (D : va_G) (t : Nat → Nat) (cI cL cC : ClassId) (gC : Int32) (gE : Int32) (G : Nat) (gW : Nat → Int32) (gA : Nat → Int32) (a0 : Nat) (a1 : Int32) (a2 : Int32) (a3 : Int32) (h95 : a3.toInt ≤ 95) (hGb : G ≤ 150000000) (k_a0 : t a0 = 1) : tM l yX9_changedReading uX9_changedReading 5 121 D (gF cI cL cC gC gE G gW gA) (gF cI cL cC gC gE (G + 96) gW gA) t cI cL cC [.ref a0, .int a1, .int a2, .int a3] wrC (pL (fun r => True)) := by
  refine tM.ofW (cc := cX9_changedReading) (maxL := 7) (ret := (some .long)) (by decide) rfl (Nat.le_of_ble_eq_true rfl) ?_
  intro p e s m below meth c hx hb hr hml hown hts hlk H locs hG hK hE hS ls hl
  have hl : lv_has ls 7 [(0, .ref a0), (1, .int a1), (2, .int a2), (3, .int a3)] := hl
  have in9 : ∀ w ∈ wsX90, w ∈ uX9_changedReading := fun w h => List.mem_cons_of_mem _ (List.mem_append_left _ (List.mem_append_left _ (List.mem_append_left _ (List.mem_append_left _ (List.mem_append_right _ h)))))
  refine lv_iload_n hx hb dX9_changedReading_0 rfl (lv_at hl 1 rfl) ?_
  refine lv_iconst (v := 3) hx hb dX9_changedReading_1 (by decide) ?_
  refine lv_icmp_lt (tgt := 19) hx hb dX9_changedReading_2 (by decide) (fun c_1 => ?_) (fun c_1 => ?_)
  · skip
    have c_1 : a1.toInt < 3 := q_lt c_1
    refine lv_aload_n hx hb dX9_changedReading_19 rfl (lv_at hl 0 rfl) ?_
    obtain ⟨r_2, r_4, r_6, r_8, v_10, v_11, r_12, r_14, r_16, r_18, r_20, r_22, r_24, v_26, r_28, r_30, r_32, r_34, at_36, h_3, h_5, h_7, h_9, h_13, h_15, h_17, h_19, h_21, h_23, h_25, h_27, h_29, h_31, h_33, h_35⟩ := gF_o1 hG k_a0
    refine va_get (D := D) (ci := 8) (v := .ref r_4) (C := RX9) (T := TX9) (N := 18) hx hb hts in9 hown hK (va_one at_36) 0 rfl rfl 1 (by decide) (hts (.fieldLink RX9 19 "RiverModel" "model" "LRiverModel$Model;") (List.mem_of_getElem? (i := 1) rfl)) (fun _ h9 => h9) rfl dX9_changedReading_20 ?_
    refine lv_astore (lv' := [(4, .ref r_4), (0, .ref a0), (1, .int a1), (2, .int a2), (3, .int a3)]) hx hb dX9_changedReading_23 hl (by decide) rfl (fun ls hl => ?_)
    refine lv_iload_n hx hb dX9_changedReading_25 rfl (lv_at hl 2 rfl) ?_
    refine lv_pc (pc2 := 26) rfl ?_
    refine lv_iconst (v := 1) hx hb dX9_changedReading_26 (by decide) ?_
    refine lv_icmp_lt (tgt := 37) hx hb dX9_changedReading_27 (by decide) (fun c_37 => ?_) (fun c_37 => ?_)
    · skip
      have c_37 : a1.toInt < 1 := q_lt c_37
      refine lv_aload_n hx hb dX9_changedReading_37 rfl (lv_at hl 1 rfl) ?_
      refine va_get (D := D) (ci := 8) (v := .ref r_12) (C := RX9) (T := TX9) (N := 18) hx hb hts in9 hown hK (va_one at_36) 0 rfl rfl 6 (by decide) (hts (.fieldLink RX9 39 "RiverModel" "skyA" "LRiverModel$Sky;") (List.mem_of_getElem? (i := 2) rfl)) (fun _ h9 => h9) rfl dX9_changedReading_38 ?_
      refine lv_astore (lv' := [(5, .ref r_12), (4, .ref r_4), (0, .ref a0), (1, .int a1), (2, .int a2), (3, .int a3)]) hx hb dX9_changedReading_41 hl (by decide) rfl (fun ls hl => ?_)
      refine lv_aload_n hx hb dX9_changedReading_43 rfl (lv_at hl 2 rfl) ?_
      refine va_get (D := D) (ci := 8) (v := .ref r_20) (C := RX9) (T := TX9) (N := 18) hx hb hts in9 hown hK (va_one at_36) 0 rfl rfl 10 (by decide) (hts (.fieldLink RX9 57 "RiverModel" "trial" "LRiverModel$Course;") (List.mem_of_getElem? (i := 3) rfl)) (fun _ h9 => h9) rfl dX9_changedReading_44 ?_
      refine lv_aload hx hb dX9_changedReading_47 (lv_at hl 1 rfl) ?_
      refine lv_pc (pc2 := 49) rfl ?_
      obtain ⟨r_38, r_40, r_42, r_44, v_46, v_47, v_48, v_49, at_51, h_39, h_41, h_43, h_45, h_50⟩ := gF_o5 hG h_21
      refine ty_callv ((W.runV (As := [.ref r_4]) (rest := []) ⟨hx, hb, hml, hown, hts⟩ (s_X0_begin l D t cI cL cC gC gE G gW gA r_20 r_4 h_21 h_5) (cwV 1 hts gu_X9_changedReading_X0_begin_147 rfl rfl rfl (by decide +kernel) ⟨Nat.le_of_ble_eq_true rfl, Nat.le_of_ble_eq_true rfl⟩) (tP_V hG hE at_51 rfl) rfl rfl hl.1 rfl (lv_room (Nat.le_of_ble_eq_true rfl)) dX9_changedReading_49 ⟨Nat.le_of_ble_eq_true rfl, Nat.le_of_ble_eq_true rfl⟩)) hS (fun _ h => h) (fun H locs hp_53 hG hS o_54 => ?_)
      have at_36 := va_at.keptC at_36 o_54 k_a0 rfl
      refine lv_iload_n hx hb dX9_changedReading_52 rfl (lv_at hl 3 rfl) ?_
      refine lv_iconst (v := 2) hx hb dX9_changedReading_53 (by decide) ?_
      refine lv_icmp_lt (tgt := 68) hx hb dX9_changedReading_54 (by decide) (fun c_55 => ?_) (fun c_55 => ?_)
      · skip
        have c_55 : a1.toInt < 2 := q_lt c_55
        refine lv_iconst (v := 0) hx hb dX9_changedReading_68 (by decide) ?_
        refine lv_istore (lv' := [(6, .int 0), (5, .ref r_12), (4, .ref r_4), (0, .ref a0), (1, .int a1), (2, .int a2), (3, .int a3)]) hx hb dX9_changedReading_69 hl (by decide) rfl (fun ls hl => ?_)
        refine lv_pc (pc2 := 71) rfl ?_
        refine lp_gen (fun WW hWW => ?_)
        have kx : ∀ (yh : Int32) (g : Nat) (H1 : Heap) (locs1 : List Loc) (ls1 : Array Slot), 0 ≤ yh.toInt → yh.toInt ≤ 96 → (g : Int) + (96 - yh.toInt) ≤ (G : Int) + 96 → tG D (gF cI cL cC gC gE g gW gA) t H1 → tF t wrC s.heap H1 locs1 → lv_has ls1 7 [(6, .int yh), (5, .ref r_12), (4, .ref r_4), (0, .ref a0), (1, .int a1), (2, .int a2), (3, .int a3)] → WW H1 locs1 (F0 m 94 ls1 []) := by
          intro yh g H locs ls v0 v1 v2 hG hS hl
          refine (hWW _ _ _).mpr ?_
          refine lv_aload_n hx hb dX9_changedReading_94 rfl (lv_at hl 3 rfl) ?_
          obtain ⟨r_56, r_58, r_60, r_62, v_64, v_65, r_66, r_68, r_70, r_72, r_74, r_76, r_78, v_80, r_82, r_84, r_86, r_88, at_90, h_57, h_59, h_61, h_63, h_67, h_69, h_71, h_73, h_75, h_77, h_79, h_81, h_83, h_85, h_87, h_89⟩ := gF_o1 hG k_a0
          refine va_get (D := D) (ci := 8) (v := .ref r_82) (C := RX9) (T := TX9) (N := 18) hx hb hts in9 hown hK (va_one at_90) 0 rfl rfl 14 (by decide) (hts (.fieldLink RX9 74 "RiverModel" "gauges" "LRiverModel$Gauges;") (List.mem_of_getElem? (i := 8) rfl)) (fun _ h9 => h9) rfl dX9_changedReading_95 ?_
          refine lv_pc (pc2 := 98) rfl ?_
          refine lv_aload_n hx hb dX9_changedReading_98 rfl (lv_at hl 3 rfl) ?_
          refine va_get (D := D) (ci := 8) (v := .ref r_74) (C := RX9) (T := TX9) (N := 18) hx hb hts in9 hown hK (va_one at_90) 0 rfl rfl 10 (by decide) (hts (.fieldLink RX9 57 "RiverModel" "trial" "LRiverModel$Course;") (List.mem_of_getElem? (i := 3) rfl)) (fun _ h9 => h9) rfl dX9_changedReading_99 ?_
          refine lv_iload_n hx hb dX9_changedReading_102 rfl (lv_at hl 5 rfl) ?_
          obtain ⟨r_91, r_93, r_95, at_97, h_92, h_94, h_96⟩ := gF_o6 hG h_83
          refine ty_calll ((W.runV (As := [.ref r_74, .int a2]) (rest := []) ⟨hx, hb, hml, hown, hts⟩ (s_X1_reading l D t cI cL cC gC gE g gW gA r_82 r_74 a2 h_83 h_75) (cwV 2 hts gu_X9_changedReading_X1_reading_215 rfl rfl rfl (by decide +kernel) ⟨Nat.le_of_ble_eq_true rfl, Nat.le_of_ble_eq_true rfl⟩) (tP_V hG hE at_97 rfl) rfl rfl hl.1 rfl (lv_room (Nat.le_of_ble_eq_true rfl)) dX9_changedReading_103 ⟨Nat.le_of_ble_eq_true rfl, Nat.le_of_ble_eq_true rfl⟩)) hS (fun k h => by simp [wr0] at h) (fun z_98 H locs hp_99 hG hS o_100 => ?_)
          have at_90 := va_at.keptC at_90 o_100 k_a0 rfl
          have at_97 := va_at.keptC at_97 o_100 h_83 rfl
          exact ty_lret hx hb hr hlk (hG.weak (fun _ _ => gF_mono (by omega))) hS True.intro dX9_changedReading_106
        have loop : ∀ (k : Nat) (yh : Int32) (g : Nat) (H1 : Heap) (locs1 : List Loc) (ls1 : Array Slot), 96 - yh.toInt ≤ (k : Int) → 0 ≤ yh.toInt → yh.toInt ≤ 96 → (g : Int) + (96 - yh.toInt) ≤ (G : Int) + 96 → tG D (gF cI cL cC gC gE g gW gA) t H1 → tF t wrC s.heap H1 locs1 → lv_has ls1 7 [(6, .int yh), (5, .ref r_12), (4, .ref r_4), (0, .ref a0), (1, .int a1), (2, .int a2), (3, .int a3)] → WW H1 locs1 (F0 m 71 ls1 []) := by
          intro k
          induction k with
          | zero =>
            intro yh g H locs ls hk v0 v1 v2 hG hS hl
            refine (hWW _ _ _).mpr ?_
            refine lv_iload hx hb dX9_changedReading_71 (lv_at hl 0 rfl) ?_
            refine lv_iload_n hx hb dX9_changedReading_73 rfl (lv_at hl 6 rfl) ?_
            refine lv_icmp_gt (tgt := 94) hx hb dX9_changedReading_74 (by decide) (fun c_101 => ?_) (fun c_101 => ?_)
            · skip
              have c_101 : a3.toInt < yh.toInt := q_lt c_101
              exact (hWW _ _ _).mp (kx yh g H locs ls (by omega) (by omega) (by omega) hG hS (lv_sub hl [0, 1, 2, 3, 4, 5, 6] rfl))
            · skip
              have c_101 : yh.toInt ≤ a3.toInt := q_nlt c_101
              refine lv_pc (pc2 := 77) rfl ?_
              refine lv_aload_n hx hb dX9_changedReading_77 rfl (lv_at hl 3 rfl) ?_
              obtain ⟨r_102, r_104, r_106, r_108, v_110, v_111, r_112, r_114, r_116, r_118, r_120, r_122, r_124, v_126, r_128, r_130, r_132, r_134, at_136, h_103, h_105, h_107, h_109, h_113, h_115, h_117, h_119, h_121, h_123, h_125, h_127, h_129, h_131, h_133, h_135⟩ := gF_o1 hG k_a0
              refine va_get (D := D) (ci := 8) (v := .ref r_120) (C := RX9) (T := TX9) (N := 18) hx hb hts in9 hown hK (va_one at_136) 0 rfl rfl 10 (by decide) (hts (.fieldLink RX9 57 "RiverModel" "trial" "LRiverModel$Course;") (List.mem_of_getElem? (i := 3) rfl)) (fun _ h9 => h9) rfl dX9_changedReading_78 ?_
              refine lv_aload hx hb dX9_changedReading_81 (lv_at hl 2 rfl) ?_
              refine lv_aload hx hb dX9_changedReading_83 (lv_at hl 1 rfl) ?_
              obtain ⟨r_137, r_139, r_141, r_143, v_145, v_146, v_147, v_148, at_150, h_138, h_140, h_142, h_144, h_149⟩ := gF_o5 hG h_121
              refine ty_callv ((W.runV (As := [.ref r_4, .ref r_12]) (rest := []) ⟨hx, hb, hml, hown, hts⟩ (s_X0_goHourBy l D t cI cL cC gC gE g gW gA r_120 r_4 r_12 (by omega) h_121 h_5 h_13) (cwV 2 hts gu_X9_changedReading_X0_goHourBy_151 rfl rfl rfl (by decide +kernel) ⟨Nat.le_of_ble_eq_true rfl, Nat.le_of_ble_eq_true rfl⟩) (tP_V hG hE at_150 rfl) rfl rfl hl.1 rfl (lv_room (Nat.le_of_ble_eq_true rfl)) dX9_changedReading_85 ⟨Nat.le_of_ble_eq_true rfl, Nat.le_of_ble_eq_true rfl⟩)) hS (fun _ h => h) (fun H locs hp_152 hG hS o_153 => ?_)
              have at_136 := va_at.keptC at_136 o_153 k_a0 rfl
              obtain ⟨x_154, e_155⟩ : ∃ y : Int32, y = yh + Int32.ofInt 1 := ⟨_, rfl⟩
              have i_x_154 : x_154.toInt = yh.toInt + 1 := by rw [e_155, show Int32.ofInt 1 = 1 by decide]; exact (q_add (by rw [show (1 : Int32).toInt = 1 by decide]; omega) (by rw [show (1 : Int32).toInt = 1 by decide]; omega)).trans (by rw [show (1 : Int32).toInt = 1 by decide])
              refine lv_iinc (v := x_154) (lv' := [(6, .int x_154), (5, .ref r_12), (4, .ref r_4), (0, .ref a0), (1, .int a1), (2, .int a2), (3, .int a3)]) hx hb dX9_changedReading_88 hl (k := 0) rfl e_155.symm (by decide) rfl (fun ls hl => ?_)
              refine lv_goto (tgt := 71) hx hb dX9_changedReading_91 (by decide) ?_
              exfalso; omega
          | succ k ih =>
            intro yh g H locs ls hk v0 v1 v2 hG hS hl
            refine (hWW _ _ _).mpr ?_
            refine lv_iload hx hb dX9_changedReading_71 (lv_at hl 0 rfl) ?_
            refine lv_pc (pc2 := 73) rfl ?_
            refine lv_iload_n hx hb dX9_changedReading_73 rfl (lv_at hl 6 rfl) ?_
            refine lv_icmp_gt (tgt := 94) hx hb dX9_changedReading_74 (by decide) (fun c_156 => ?_) (fun c_156 => ?_)
            · skip
              have c_156 : a3.toInt < yh.toInt := q_lt c_156
              exact (hWW _ _ _).mp (kx yh g H locs ls (by omega) (by omega) (by omega) hG hS (lv_sub hl [0, 1, 2, 3, 4, 5, 6] rfl))
            · skip
              have c_156 : yh.toInt ≤ a3.toInt := q_nlt c_156
              refine lv_aload_n hx hb dX9_changedReading_77 rfl (lv_at hl 3 rfl) ?_
              obtain ⟨r_157, r_159, r_161, r_163, v_165, v_166, r_167, r_169, r_171, r_173, r_175, r_177, r_179, v_181, r_183, r_185, r_187, r_189, at_191, h_158, h_160, h_162, h_164, h_168, h_170, h_172, h_174, h_176, h_178, h_180, h_182, h_184, h_186, h_188, h_190⟩ := gF_o1 hG k_a0
              refine va_get (D := D) (ci := 8) (v := .ref r_175) (C := RX9) (T := TX9) (N := 18) hx hb hts in9 hown hK (va_one at_191) 0 rfl rfl 10 (by decide) (hts (.fieldLink RX9 57 "RiverModel" "trial" "LRiverModel$Course;") (List.mem_of_getElem? (i := 3) rfl)) (fun _ h9 => h9) rfl dX9_changedReading_78 ?_
              refine lv_aload hx hb dX9_changedReading_81 (lv_at hl 2 rfl) ?_
              refine lv_aload hx hb dX9_changedReading_83 (lv_at hl 1 rfl) ?_
              obtain ⟨r_192, r_194, r_196, r_198, v_200, v_201, v_202, v_203, at_205, h_193, h_195, h_197, h_199, h_204⟩ := gF_o5 hG h_176
              refine ty_callv ((W.runV (As := [.ref r_4, .ref r_12]) (rest := []) ⟨hx, hb, hml, hown, hts⟩ (s_X0_goHourBy l D t cI cL cC gC gE g gW gA r_175 r_4 r_12 (by omega) h_176 h_5 h_13) (cwV 2 hts gu_X9_changedReading_X0_goHourBy_151 rfl rfl rfl (by decide +kernel) ⟨Nat.le_of_ble_eq_true rfl, Nat.le_of_ble_eq_true rfl⟩) (tP_V hG hE at_205 rfl) rfl rfl hl.1 rfl (lv_room (Nat.le_of_ble_eq_true rfl)) dX9_changedReading_85 ⟨Nat.le_of_ble_eq_true rfl, Nat.le_of_ble_eq_true rfl⟩)) hS (fun _ h => h) (fun H locs hp_207 hG hS o_208 => ?_)
              have at_191 := va_at.keptC at_191 o_208 k_a0 rfl
              obtain ⟨x_209, e_210⟩ : ∃ y : Int32, y = yh + Int32.ofInt 1 := ⟨_, rfl⟩
              have i_x_209 : x_209.toInt = yh.toInt + 1 := by rw [e_210, show Int32.ofInt 1 = 1 by decide]; exact (q_add (by rw [show (1 : Int32).toInt = 1 by decide]; omega) (by rw [show (1 : Int32).toInt = 1 by decide]; omega)).trans (by rw [show (1 : Int32).toInt = 1 by decide])
              refine lv_iinc (v := x_209) (lv' := [(6, .int x_209), (5, .ref r_12), (4, .ref r_4), (0, .ref a0), (1, .int a1), (2, .int a2), (3, .int a3)]) hx hb dX9_changedReading_88 hl (k := 0) rfl e_210.symm (by decide) rfl (fun ls hl => ?_)
              refine lv_pc (pc2 := 91) rfl ?_
              refine lv_goto (tgt := 71) hx hb dX9_changedReading_91 (by decide) ?_
              exact (hWW _ _ _).mp (ih x_209 (g + 1) H locs ls (by omega) (by omega) (by omega) (by omega) hG hS (lv_sub hl [0, 1, 2, 3, 4, 5, 6] rfl))
        have hz_yh : (0 : Int32).toInt = 0 := by decide
        exact loop (96 - 0 : Int).toNat 0 G H locs ls (by omega) (by omega) (by omega) (by omega) hG hS (lv_sub hl [0, 1, 2, 3, 4, 5, 6] rfl)
      · skip
        have c_55 : 2 ≤ a1.toInt := q_nlt c_55
        refine lv_aload_n hx hb dX9_changedReading_57 rfl (lv_at hl 2 rfl) ?_
        refine va_get (D := D) (ci := 8) (v := .ref r_20) (C := RX9) (T := TX9) (N := 18) hx hb hts in9 hown hK (va_one at_36) 0 rfl rfl 10 (by decide) (hts (.fieldLink RX9 57 "RiverModel" "trial" "LRiverModel$Course;") (List.mem_of_getElem? (i := 3) rfl)) (fun _ h9 => h9) rfl dX9_changedReading_58 ?_
        refine lv_aload_n hx hb dX9_changedReading_61 rfl (lv_at hl 2 rfl) ?_
        refine va_get (D := D) (ci := 8) (v := .ref r_16) (C := RX9) (T := TX9) (N := 18) hx hb hts in9 hown hK (va_one at_36) 0 rfl rfl 8 (by decide) (hts (.fieldLink RX9 46 "RiverModel" "startsB" "[I") (List.mem_of_getElem? (i := 16) rfl)) (fun _ h9 => h9) rfl dX9_changedReading_62 ?_
        obtain ⟨r_211, r_213, r_215, r_217, v_219, v_220, v_221, v_222, at_224, h_212, h_214, h_216, h_218, h_223⟩ := gF_o5 hG h_21
        refine ty_callv ((W.runV (As := [.ref r_16]) (rest := []) ⟨hx, hb, hml, hown, hts⟩ (s_X0_startFrom l D t cI cL cC gC gE G gW gA r_20 r_16 h_21 h_17) (cwV 1 hts gu_X9_changedReading_X0_startFrom_380 rfl rfl rfl (by decide +kernel) ⟨Nat.le_of_ble_eq_true rfl, Nat.le_of_ble_eq_true rfl⟩) (tP_V hG hE at_224 rfl) rfl rfl hl.1 rfl (lv_room (Nat.le_of_ble_eq_true rfl)) dX9_changedReading_65 ⟨Nat.le_of_ble_eq_true rfl, Nat.le_of_ble_eq_true rfl⟩)) hS (fun _ h => h) (fun H locs hp_226 hG hS o_227 => ?_)
        have at_36 := va_at.keptC at_36 o_227 k_a0 rfl
        refine lv_iconst (v := 0) hx hb dX9_changedReading_68 (by decide) ?_
        refine lv_istore (lv' := [(6, .int 0), (5, .ref r_12), (4, .ref r_4), (0, .ref a0), (1, .int a1), (2, .int a2), (3, .int a3)]) hx hb dX9_changedReading_69 hl (by decide) rfl (fun ls hl => ?_)
        refine lv_pc (pc2 := 71) rfl ?_
        refine lp_gen (fun WW hWW => ?_)
        have kx : ∀ (yh : Int32) (g : Nat) (H1 : Heap) (locs1 : List Loc) (ls1 : Array Slot), 0 ≤ yh.toInt → yh.toInt ≤ 96 → (g : Int) + (96 - yh.toInt) ≤ (G : Int) + 96 → tG D (gF cI cL cC gC gE g gW gA) t H1 → tF t wrC s.heap H1 locs1 → lv_has ls1 7 [(6, .int yh), (5, .ref r_12), (4, .ref r_4), (0, .ref a0), (1, .int a1), (2, .int a2), (3, .int a3)] → WW H1 locs1 (F0 m 94 ls1 []) := by
          intro yh g H locs ls v0 v1 v2 hG hS hl
          refine (hWW _ _ _).mpr ?_
          refine lv_pc (pc2 := 94) rfl ?_
          refine lv_aload_n hx hb dX9_changedReading_94 rfl (lv_at hl 3 rfl) ?_
          obtain ⟨r_228, r_230, r_232, r_234, v_236, v_237, r_238, r_240, r_242, r_244, r_246, r_248, r_250, v_252, r_254, r_256, r_258, r_260, at_262, h_229, h_231, h_233, h_235, h_239, h_241, h_243, h_245, h_247, h_249, h_251, h_253, h_255, h_257, h_259, h_261⟩ := gF_o1 hG k_a0
          refine va_get (D := D) (ci := 8) (v := .ref r_254) (C := RX9) (T := TX9) (N := 18) hx hb hts in9 hown hK (va_one at_262) 0 rfl rfl 14 (by decide) (hts (.fieldLink RX9 74 "RiverModel" "gauges" "LRiverModel$Gauges;") (List.mem_of_getElem? (i := 8) rfl)) (fun _ h9 => h9) rfl dX9_changedReading_95 ?_
          refine lv_aload_n hx hb dX9_changedReading_98 rfl (lv_at hl 3 rfl) ?_
          refine va_get (D := D) (ci := 8) (v := .ref r_246) (C := RX9) (T := TX9) (N := 18) hx hb hts in9 hown hK (va_one at_262) 0 rfl rfl 10 (by decide) (hts (.fieldLink RX9 57 "RiverModel" "trial" "LRiverModel$Course;") (List.mem_of_getElem? (i := 3) rfl)) (fun _ h9 => h9) rfl dX9_changedReading_99 ?_
          refine lv_iload_n hx hb dX9_changedReading_102 rfl (lv_at hl 5 rfl) ?_
          obtain ⟨r_263, r_265, r_267, at_269, h_264, h_266, h_268⟩ := gF_o6 hG h_255
          refine ty_calll ((W.runV (As := [.ref r_246, .int a2]) (rest := []) ⟨hx, hb, hml, hown, hts⟩ (s_X1_reading l D t cI cL cC gC gE g gW gA r_254 r_246 a2 h_255 h_247) (cwV 2 hts gu_X9_changedReading_X1_reading_215 rfl rfl rfl (by decide +kernel) ⟨Nat.le_of_ble_eq_true rfl, Nat.le_of_ble_eq_true rfl⟩) (tP_V hG hE at_269 rfl) rfl rfl hl.1 rfl (lv_room (Nat.le_of_ble_eq_true rfl)) dX9_changedReading_103 ⟨Nat.le_of_ble_eq_true rfl, Nat.le_of_ble_eq_true rfl⟩)) hS (fun k h => by simp [wr0] at h) (fun z_270 H locs hp_271 hG hS o_272 => ?_)
          have at_262 := va_at.keptC at_262 o_272 k_a0 rfl
          have at_269 := va_at.keptC at_269 o_272 h_255 rfl
          exact ty_lret hx hb hr hlk (hG.weak (fun _ _ => gF_mono (by omega))) hS True.intro dX9_changedReading_106
        have loop : ∀ (k : Nat) (yh : Int32) (g : Nat) (H1 : Heap) (locs1 : List Loc) (ls1 : Array Slot), 96 - yh.toInt ≤ (k : Int) → 0 ≤ yh.toInt → yh.toInt ≤ 96 → (g : Int) + (96 - yh.toInt) ≤ (G : Int) + 96 → tG D (gF cI cL cC gC gE g gW gA) t H1 → tF t wrC s.heap H1 locs1 → lv_has ls1 7 [(6, .int yh), (5, .ref r_12), (4, .ref r_4), (0, .ref a0), (1, .int a1), (2, .int a2), (3, .int a3)] → WW H1 locs1 (F0 m 71 ls1 []) := by
          intro k
          induction k with
          | zero =>
            intro yh g H locs ls hk v0 v1 v2 hG hS hl
            refine (hWW _ _ _).mpr ?_
            refine lv_iload hx hb dX9_changedReading_71 (lv_at hl 0 rfl) ?_
            refine lv_pc (pc2 := 73) rfl ?_
            refine lv_iload_n hx hb dX9_changedReading_73 rfl (lv_at hl 6 rfl) ?_
            refine lv_icmp_gt (tgt := 94) hx hb dX9_changedReading_74 (by decide) (fun c_273 => ?_) (fun c_273 => ?_)
            · skip
              have c_273 : a3.toInt < yh.toInt := q_lt c_273
              exact (hWW _ _ _).mp (kx yh g H locs ls (by omega) (by omega) (by omega) hG hS (lv_sub hl [0, 1, 2, 3, 4, 5, 6] rfl))
            · skip
              have c_273 : yh.toInt ≤ a3.toInt := q_nlt c_273
              refine lv_aload_n hx hb dX9_changedReading_77 rfl (lv_at hl 3 rfl) ?_
              obtain ⟨r_274, r_276, r_278, r_280, v_282, v_283, r_284, r_286, r_288, r_290, r_292, r_294, r_296, v_298, r_300, r_302, r_304, r_306, at_308, h_275, h_277, h_279, h_281, h_285, h_287, h_289, h_291, h_293, h_295, h_297, h_299, h_301, h_303, h_305, h_307⟩ := gF_o1 hG k_a0
              refine va_get (D := D) (ci := 8) (v := .ref r_292) (C := RX9) (T := TX9) (N := 18) hx hb hts in9 hown hK (va_one at_308) 0 rfl rfl 10 (by decide) (hts (.fieldLink RX9 57 "RiverModel" "trial" "LRiverModel$Course;") (List.mem_of_getElem? (i := 3) rfl)) (fun _ h9 => h9) rfl dX9_changedReading_78 ?_
              refine lv_aload hx hb dX9_changedReading_81 (lv_at hl 2 rfl) ?_
              refine lv_aload hx hb dX9_changedReading_83 (lv_at hl 1 rfl) ?_
              obtain ⟨r_309, r_311, r_313, r_315, v_317, v_318, v_319, v_320, at_322, h_310, h_312, h_314, h_316, h_321⟩ := gF_o5 hG h_293
              refine ty_callv ((W.runV (As := [.ref r_4, .ref r_12]) (rest := []) ⟨hx, hb, hml, hown, hts⟩ (s_X0_goHourBy l D t cI cL cC gC gE g gW gA r_292 r_4 r_12 (by omega) h_293 h_5 h_13) (cwV 2 hts gu_X9_changedReading_X0_goHourBy_151 rfl rfl rfl (by decide +kernel) ⟨Nat.le_of_ble_eq_true rfl, Nat.le_of_ble_eq_true rfl⟩) (tP_V hG hE at_322 rfl) rfl rfl hl.1 rfl (lv_room (Nat.le_of_ble_eq_true rfl)) dX9_changedReading_85 ⟨Nat.le_of_ble_eq_true rfl, Nat.le_of_ble_eq_true rfl⟩)) hS (fun _ h => h) (fun H locs hp_324 hG hS o_325 => ?_)
              have at_308 := va_at.keptC at_308 o_325 k_a0 rfl
              obtain ⟨x_326, e_327⟩ : ∃ y : Int32, y = yh + Int32.ofInt 1 := ⟨_, rfl⟩
              have i_x_326 : x_326.toInt = yh.toInt + 1 := by rw [e_327, show Int32.ofInt 1 = 1 by decide]; exact (q_add (by rw [show (1 : Int32).toInt = 1 by decide]; omega) (by rw [show (1 : Int32).toInt = 1 by decide]; omega)).trans (by rw [show (1 : Int32).toInt = 1 by decide])
              refine lv_iinc (v := x_326) (lv' := [(6, .int x_326), (5, .ref r_12), (4, .ref r_4), (0, .ref a0), (1, .int a1), (2, .int a2), (3, .int a3)]) hx hb dX9_changedReading_88 hl (k := 0) rfl e_327.symm (by decide) rfl (fun ls hl => ?_)
              refine lv_pc (pc2 := 91) rfl ?_
              refine lv_goto (tgt := 71) hx hb dX9_changedReading_91 (by decide) ?_
              exfalso; omega
          | succ k ih =>
            intro yh g H locs ls hk v0 v1 v2 hG hS hl
            refine (hWW _ _ _).mpr ?_
            refine lv_iload hx hb dX9_changedReading_71 (lv_at hl 0 rfl) ?_
            refine lv_iload_n hx hb dX9_changedReading_73 rfl (lv_at hl 6 rfl) ?_
            refine lv_icmp_gt (tgt := 94) hx hb dX9_changedReading_74 (by decide) (fun c_328 => ?_) (fun c_328 => ?_)
            · skip
              have c_328 : a3.toInt < yh.toInt := q_lt c_328
              exact (hWW _ _ _).mp (kx yh g H locs ls (by omega) (by omega) (by omega) hG hS (lv_sub hl [0, 1, 2, 3, 4, 5, 6] rfl))
            · skip
              have c_328 : yh.toInt ≤ a3.toInt := q_nlt c_328
              refine lv_aload_n hx hb dX9_changedReading_77 rfl (lv_at hl 3 rfl) ?_
              obtain ⟨r_329, r_331, r_333, r_335, v_337, v_338, r_339, r_341, r_343, r_345, r_347, r_349, r_351, v_353, r_355, r_357, r_359, r_361, at_363, h_330, h_332, h_334, h_336, h_340, h_342, h_344, h_346, h_348, h_350, h_352, h_354, h_356, h_358, h_360, h_362⟩ := gF_o1 hG k_a0
              refine va_get (D := D) (ci := 8) (v := .ref r_347) (C := RX9) (T := TX9) (N := 18) hx hb hts in9 hown hK (va_one at_363) 0 rfl rfl 10 (by decide) (hts (.fieldLink RX9 57 "RiverModel" "trial" "LRiverModel$Course;") (List.mem_of_getElem? (i := 3) rfl)) (fun _ h9 => h9) rfl dX9_changedReading_78 ?_
              refine lv_aload hx hb dX9_changedReading_81 (lv_at hl 2 rfl) ?_
              refine lv_aload hx hb dX9_changedReading_83 (lv_at hl 1 rfl) ?_
              refine lv_pc (pc2 := 85) rfl ?_
              obtain ⟨r_364, r_366, r_368, r_370, v_372, v_373, v_374, v_375, at_377, h_365, h_367, h_369, h_371, h_376⟩ := gF_o5 hG h_348
              refine ty_callv ((W.runV (As := [.ref r_4, .ref r_12]) (rest := []) ⟨hx, hb, hml, hown, hts⟩ (s_X0_goHourBy l D t cI cL cC gC gE g gW gA r_347 r_4 r_12 (by omega) h_348 h_5 h_13) (cwV 2 hts gu_X9_changedReading_X0_goHourBy_151 rfl rfl rfl (by decide +kernel) ⟨Nat.le_of_ble_eq_true rfl, Nat.le_of_ble_eq_true rfl⟩) (tP_V hG hE at_377 rfl) rfl rfl hl.1 rfl (lv_room (Nat.le_of_ble_eq_true rfl)) dX9_changedReading_85 ⟨Nat.le_of_ble_eq_true rfl, Nat.le_of_ble_eq_true rfl⟩)) hS (fun _ h => h) (fun H locs hp_379 hG hS o_380 => ?_)
              have at_363 := va_at.keptC at_363 o_380 k_a0 rfl
              obtain ⟨x_381, e_382⟩ : ∃ y : Int32, y = yh + Int32.ofInt 1 := ⟨_, rfl⟩
              have i_x_381 : x_381.toInt = yh.toInt + 1 := by rw [e_382, show Int32.ofInt 1 = 1 by decide]; exact (q_add (by rw [show (1 : Int32).toInt = 1 by decide]; omega) (by rw [show (1 : Int32).toInt = 1 by decide]; omega)).trans (by rw [show (1 : Int32).toInt = 1 by decide])
              refine lv_iinc (v := x_381) (lv' := [(6, .int x_381), (5, .ref r_12), (4, .ref r_4), (0, .ref a0), (1, .int a1), (2, .int a2), (3, .int a3)]) hx hb dX9_changedReading_88 hl (k := 0) rfl e_382.symm (by decide) rfl (fun ls hl => ?_)
              refine lv_goto (tgt := 71) hx hb dX9_changedReading_91 (by decide) ?_
              exact (hWW _ _ _).mp (ih x_381 (g + 1) H locs ls (by omega) (by omega) (by omega) (by omega) hG hS (lv_sub hl [0, 1, 2, 3, 4, 5, 6] rfl))
        have hz_yh : (0 : Int32).toInt = 0 := by decide
        exact loop (96 - 0 : Int).toNat 0 G H locs ls (by omega) (by omega) (by omega) (by omega) hG hS (lv_sub hl [0, 1, 2, 3, 4, 5, 6] rfl)
    · skip
      have c_37 : 1 ≤ a1.toInt := q_nlt c_37
      refine lv_aload_n hx hb dX9_changedReading_30 rfl (lv_at hl 1 rfl) ?_
      refine va_get (D := D) (ci := 8) (v := .ref r_14) (C := RX9) (T := TX9) (N := 18) hx hb hts in9 hown hK (va_one at_36) 0 rfl rfl 7 (by decide) (hts (.fieldLink RX9 43 "RiverModel" "skyB" "LRiverModel$Sky;") (List.mem_of_getElem? (i := 20) rfl)) (fun _ h9 => h9) rfl dX9_changedReading_31 ?_
      refine lv_goto (tgt := 41) hx hb dX9_changedReading_34 (by decide) ?_
      refine lv_astore (lv' := [(5, .ref r_14), (4, .ref r_4), (0, .ref a0), (1, .int a1), (2, .int a2), (3, .int a3)]) hx hb dX9_changedReading_41 hl (by decide) rfl (fun ls hl => ?_)
      refine lv_aload_n hx hb dX9_changedReading_43 rfl (lv_at hl 2 rfl) ?_
      refine lv_pc (pc2 := 44) rfl ?_
      refine va_get (D := D) (ci := 8) (v := .ref r_20) (C := RX9) (T := TX9) (N := 18) hx hb hts in9 hown hK (va_one at_36) 0 rfl rfl 10 (by decide) (hts (.fieldLink RX9 57 "RiverModel" "trial" "LRiverModel$Course;") (List.mem_of_getElem? (i := 3) rfl)) (fun _ h9 => h9) rfl dX9_changedReading_44 ?_
      refine lv_aload hx hb dX9_changedReading_47 (lv_at hl 1 rfl) ?_
      obtain ⟨r_383, r_385, r_387, r_389, v_391, v_392, v_393, v_394, at_396, h_384, h_386, h_388, h_390, h_395⟩ := gF_o5 hG h_21
      refine ty_callv ((W.runV (As := [.ref r_4]) (rest := []) ⟨hx, hb, hml, hown, hts⟩ (s_X0_begin l D t cI cL cC gC gE G gW gA r_20 r_4 h_21 h_5) (cwV 1 hts gu_X9_changedReading_X0_begin_147 rfl rfl rfl (by decide +kernel) ⟨Nat.le_of_ble_eq_true rfl, Nat.le_of_ble_eq_true rfl⟩) (tP_V hG hE at_396 rfl) rfl rfl hl.1 rfl (lv_room (Nat.le_of_ble_eq_true rfl)) dX9_changedReading_49 ⟨Nat.le_of_ble_eq_true rfl, Nat.le_of_ble_eq_true rfl⟩)) hS (fun _ h => h) (fun H locs hp_398 hG hS o_399 => ?_)
      have at_36 := va_at.keptC at_36 o_399 k_a0 rfl
      refine lv_iload_n hx hb dX9_changedReading_52 rfl (lv_at hl 3 rfl) ?_
      refine lv_iconst (v := 2) hx hb dX9_changedReading_53 (by decide) ?_
      refine lv_icmp_lt (tgt := 68) hx hb dX9_changedReading_54 (by decide) (fun c_400 => ?_) (fun c_400 => ?_)
      · skip
        have c_400 : a1.toInt < 2 := q_lt c_400
        refine lv_iconst (v := 0) hx hb dX9_changedReading_68 (by decide) ?_
        refine lv_istore (lv' := [(6, .int 0), (5, .ref r_14), (4, .ref r_4), (0, .ref a0), (1, .int a1), (2, .int a2), (3, .int a3)]) hx hb dX9_changedReading_69 hl (by decide) rfl (fun ls hl => ?_)
        refine lv_pc (pc2 := 71) rfl ?_
        refine lp_gen (fun WW hWW => ?_)
        have kx : ∀ (yh : Int32) (g : Nat) (H1 : Heap) (locs1 : List Loc) (ls1 : Array Slot), 0 ≤ yh.toInt → yh.toInt ≤ 96 → (g : Int) + (96 - yh.toInt) ≤ (G : Int) + 96 → tG D (gF cI cL cC gC gE g gW gA) t H1 → tF t wrC s.heap H1 locs1 → lv_has ls1 7 [(6, .int yh), (5, .ref r_14), (4, .ref r_4), (0, .ref a0), (1, .int a1), (2, .int a2), (3, .int a3)] → WW H1 locs1 (F0 m 94 ls1 []) := by
          intro yh g H locs ls v0 v1 v2 hG hS hl
          refine (hWW _ _ _).mpr ?_
          refine lv_pc (pc2 := 94) rfl ?_
          refine lv_aload_n hx hb dX9_changedReading_94 rfl (lv_at hl 3 rfl) ?_
          obtain ⟨r_401, r_403, r_405, r_407, v_409, v_410, r_411, r_413, r_415, r_417, r_419, r_421, r_423, v_425, r_427, r_429, r_431, r_433, at_435, h_402, h_404, h_406, h_408, h_412, h_414, h_416, h_418, h_420, h_422, h_424, h_426, h_428, h_430, h_432, h_434⟩ := gF_o1 hG k_a0
          refine va_get (D := D) (ci := 8) (v := .ref r_427) (C := RX9) (T := TX9) (N := 18) hx hb hts in9 hown hK (va_one at_435) 0 rfl rfl 14 (by decide) (hts (.fieldLink RX9 74 "RiverModel" "gauges" "LRiverModel$Gauges;") (List.mem_of_getElem? (i := 8) rfl)) (fun _ h9 => h9) rfl dX9_changedReading_95 ?_
          refine lv_aload_n hx hb dX9_changedReading_98 rfl (lv_at hl 3 rfl) ?_
          refine va_get (D := D) (ci := 8) (v := .ref r_419) (C := RX9) (T := TX9) (N := 18) hx hb hts in9 hown hK (va_one at_435) 0 rfl rfl 10 (by decide) (hts (.fieldLink RX9 57 "RiverModel" "trial" "LRiverModel$Course;") (List.mem_of_getElem? (i := 3) rfl)) (fun _ h9 => h9) rfl dX9_changedReading_99 ?_
          refine lv_iload_n hx hb dX9_changedReading_102 rfl (lv_at hl 5 rfl) ?_
          obtain ⟨r_436, r_438, r_440, at_442, h_437, h_439, h_441⟩ := gF_o6 hG h_428
          refine ty_calll ((W.runV (As := [.ref r_419, .int a2]) (rest := []) ⟨hx, hb, hml, hown, hts⟩ (s_X1_reading l D t cI cL cC gC gE g gW gA r_427 r_419 a2 h_428 h_420) (cwV 2 hts gu_X9_changedReading_X1_reading_215 rfl rfl rfl (by decide +kernel) ⟨Nat.le_of_ble_eq_true rfl, Nat.le_of_ble_eq_true rfl⟩) (tP_V hG hE at_442 rfl) rfl rfl hl.1 rfl (lv_room (Nat.le_of_ble_eq_true rfl)) dX9_changedReading_103 ⟨Nat.le_of_ble_eq_true rfl, Nat.le_of_ble_eq_true rfl⟩)) hS (fun k h => by simp [wr0] at h) (fun z_443 H locs hp_444 hG hS o_445 => ?_)
          have at_435 := va_at.keptC at_435 o_445 k_a0 rfl
          have at_442 := va_at.keptC at_442 o_445 h_428 rfl
          exact ty_lret hx hb hr hlk (hG.weak (fun _ _ => gF_mono (by omega))) hS True.intro dX9_changedReading_106
        have loop : ∀ (k : Nat) (yh : Int32) (g : Nat) (H1 : Heap) (locs1 : List Loc) (ls1 : Array Slot), 96 - yh.toInt ≤ (k : Int) → 0 ≤ yh.toInt → yh.toInt ≤ 96 → (g : Int) + (96 - yh.toInt) ≤ (G : Int) + 96 → tG D (gF cI cL cC gC gE g gW gA) t H1 → tF t wrC s.heap H1 locs1 → lv_has ls1 7 [(6, .int yh), (5, .ref r_14), (4, .ref r_4), (0, .ref a0), (1, .int a1), (2, .int a2), (3, .int a3)] → WW H1 locs1 (F0 m 71 ls1 []) := by
          intro k
          induction k with
          | zero =>
            intro yh g H locs ls hk v0 v1 v2 hG hS hl
            refine (hWW _ _ _).mpr ?_
            refine lv_iload hx hb dX9_changedReading_71 (lv_at hl 0 rfl) ?_
            refine lv_pc (pc2 := 73) rfl ?_
            refine lv_iload_n hx hb dX9_changedReading_73 rfl (lv_at hl 6 rfl) ?_
            refine lv_icmp_gt (tgt := 94) hx hb dX9_changedReading_74 (by decide) (fun c_446 => ?_) (fun c_446 => ?_)
            · skip
              have c_446 : a3.toInt < yh.toInt := q_lt c_446
              exact (hWW _ _ _).mp (kx yh g H locs ls (by omega) (by omega) (by omega) hG hS (lv_sub hl [0, 1, 2, 3, 4, 5, 6] rfl))
            · skip
              have c_446 : yh.toInt ≤ a3.toInt := q_nlt c_446
              refine lv_aload_n hx hb dX9_changedReading_77 rfl (lv_at hl 3 rfl) ?_
              obtain ⟨r_447, r_449, r_451, r_453, v_455, v_456, r_457, r_459, r_461, r_463, r_465, r_467, r_469, v_471, r_473, r_475, r_477, r_479, at_481, h_448, h_450, h_452, h_454, h_458, h_460, h_462, h_464, h_466, h_468, h_470, h_472, h_474, h_476, h_478, h_480⟩ := gF_o1 hG k_a0
              refine va_get (D := D) (ci := 8) (v := .ref r_465) (C := RX9) (T := TX9) (N := 18) hx hb hts in9 hown hK (va_one at_481) 0 rfl rfl 10 (by decide) (hts (.fieldLink RX9 57 "RiverModel" "trial" "LRiverModel$Course;") (List.mem_of_getElem? (i := 3) rfl)) (fun _ h9 => h9) rfl dX9_changedReading_78 ?_
              refine lv_aload hx hb dX9_changedReading_81 (lv_at hl 2 rfl) ?_
              refine lv_aload hx hb dX9_changedReading_83 (lv_at hl 1 rfl) ?_
              obtain ⟨r_482, r_484, r_486, r_488, v_490, v_491, v_492, v_493, at_495, h_483, h_485, h_487, h_489, h_494⟩ := gF_o5 hG h_466
              refine ty_callv ((W.runV (As := [.ref r_4, .ref r_14]) (rest := []) ⟨hx, hb, hml, hown, hts⟩ (s_X0_goHourBy l D t cI cL cC gC gE g gW gA r_465 r_4 r_14 (by omega) h_466 h_5 h_15) (cwV 2 hts gu_X9_changedReading_X0_goHourBy_151 rfl rfl rfl (by decide +kernel) ⟨Nat.le_of_ble_eq_true rfl, Nat.le_of_ble_eq_true rfl⟩) (tP_V hG hE at_495 rfl) rfl rfl hl.1 rfl (lv_room (Nat.le_of_ble_eq_true rfl)) dX9_changedReading_85 ⟨Nat.le_of_ble_eq_true rfl, Nat.le_of_ble_eq_true rfl⟩)) hS (fun _ h => h) (fun H locs hp_497 hG hS o_498 => ?_)
              have at_481 := va_at.keptC at_481 o_498 k_a0 rfl
              obtain ⟨x_499, e_500⟩ : ∃ y : Int32, y = yh + Int32.ofInt 1 := ⟨_, rfl⟩
              have i_x_499 : x_499.toInt = yh.toInt + 1 := by rw [e_500, show Int32.ofInt 1 = 1 by decide]; exact (q_add (by rw [show (1 : Int32).toInt = 1 by decide]; omega) (by rw [show (1 : Int32).toInt = 1 by decide]; omega)).trans (by rw [show (1 : Int32).toInt = 1 by decide])
              refine lv_iinc (v := x_499) (lv' := [(6, .int x_499), (5, .ref r_14), (4, .ref r_4), (0, .ref a0), (1, .int a1), (2, .int a2), (3, .int a3)]) hx hb dX9_changedReading_88 hl (k := 0) rfl e_500.symm (by decide) rfl (fun ls hl => ?_)
              refine lv_pc (pc2 := 91) rfl ?_
              refine lv_goto (tgt := 71) hx hb dX9_changedReading_91 (by decide) ?_
              exfalso; omega
          | succ k ih =>
            intro yh g H locs ls hk v0 v1 v2 hG hS hl
            refine (hWW _ _ _).mpr ?_
            refine lv_iload hx hb dX9_changedReading_71 (lv_at hl 0 rfl) ?_
            refine lv_iload_n hx hb dX9_changedReading_73 rfl (lv_at hl 6 rfl) ?_
            refine lv_icmp_gt (tgt := 94) hx hb dX9_changedReading_74 (by decide) (fun c_501 => ?_) (fun c_501 => ?_)
            · skip
              have c_501 : a3.toInt < yh.toInt := q_lt c_501
              exact (hWW _ _ _).mp (kx yh g H locs ls (by omega) (by omega) (by omega) hG hS (lv_sub hl [0, 1, 2, 3, 4, 5, 6] rfl))
            · skip
              have c_501 : yh.toInt ≤ a3.toInt := q_nlt c_501
              refine lv_aload_n hx hb dX9_changedReading_77 rfl (lv_at hl 3 rfl) ?_
              obtain ⟨r_502, r_504, r_506, r_508, v_510, v_511, r_512, r_514, r_516, r_518, r_520, r_522, r_524, v_526, r_528, r_530, r_532, r_534, at_536, h_503, h_505, h_507, h_509, h_513, h_515, h_517, h_519, h_521, h_523, h_525, h_527, h_529, h_531, h_533, h_535⟩ := gF_o1 hG k_a0
              refine va_get (D := D) (ci := 8) (v := .ref r_520) (C := RX9) (T := TX9) (N := 18) hx hb hts in9 hown hK (va_one at_536) 0 rfl rfl 10 (by decide) (hts (.fieldLink RX9 57 "RiverModel" "trial" "LRiverModel$Course;") (List.mem_of_getElem? (i := 3) rfl)) (fun _ h9 => h9) rfl dX9_changedReading_78 ?_
              refine lv_aload hx hb dX9_changedReading_81 (lv_at hl 2 rfl) ?_
              refine lv_aload hx hb dX9_changedReading_83 (lv_at hl 1 rfl) ?_
              refine lv_pc (pc2 := 85) rfl ?_
              obtain ⟨r_537, r_539, r_541, r_543, v_545, v_546, v_547, v_548, at_550, h_538, h_540, h_542, h_544, h_549⟩ := gF_o5 hG h_521
              refine ty_callv ((W.runV (As := [.ref r_4, .ref r_14]) (rest := []) ⟨hx, hb, hml, hown, hts⟩ (s_X0_goHourBy l D t cI cL cC gC gE g gW gA r_520 r_4 r_14 (by omega) h_521 h_5 h_15) (cwV 2 hts gu_X9_changedReading_X0_goHourBy_151 rfl rfl rfl (by decide +kernel) ⟨Nat.le_of_ble_eq_true rfl, Nat.le_of_ble_eq_true rfl⟩) (tP_V hG hE at_550 rfl) rfl rfl hl.1 rfl (lv_room (Nat.le_of_ble_eq_true rfl)) dX9_changedReading_85 ⟨Nat.le_of_ble_eq_true rfl, Nat.le_of_ble_eq_true rfl⟩)) hS (fun _ h => h) (fun H locs hp_552 hG hS o_553 => ?_)
              have at_536 := va_at.keptC at_536 o_553 k_a0 rfl
              obtain ⟨x_554, e_555⟩ : ∃ y : Int32, y = yh + Int32.ofInt 1 := ⟨_, rfl⟩
              have i_x_554 : x_554.toInt = yh.toInt + 1 := by rw [e_555, show Int32.ofInt 1 = 1 by decide]; exact (q_add (by rw [show (1 : Int32).toInt = 1 by decide]; omega) (by rw [show (1 : Int32).toInt = 1 by decide]; omega)).trans (by rw [show (1 : Int32).toInt = 1 by decide])
              refine lv_iinc (v := x_554) (lv' := [(6, .int x_554), (5, .ref r_14), (4, .ref r_4), (0, .ref a0), (1, .int a1), (2, .int a2), (3, .int a3)]) hx hb dX9_changedReading_88 hl (k := 0) rfl e_555.symm (by decide) rfl (fun ls hl => ?_)
              refine lv_goto (tgt := 71) hx hb dX9_changedReading_91 (by decide) ?_
              exact (hWW _ _ _).mp (ih x_554 (g + 1) H locs ls (by omega) (by omega) (by omega) (by omega) hG hS (lv_sub hl [0, 1, 2, 3, 4, 5, 6] rfl))
        have hz_yh : (0 : Int32).toInt = 0 := by decide
        exact loop (96 - 0 : Int).toNat 0 G H locs ls (by omega) (by omega) (by omega) (by omega) hG hS (lv_sub hl [0, 1, 2, 3, 4, 5, 6] rfl)
      · skip
        have c_400 : 2 ≤ a1.toInt := q_nlt c_400
        refine lv_aload_n hx hb dX9_changedReading_57 rfl (lv_at hl 2 rfl) ?_
        refine va_get (D := D) (ci := 8) (v := .ref r_20) (C := RX9) (T := TX9) (N := 18) hx hb hts in9 hown hK (va_one at_36) 0 rfl rfl 10 (by decide) (hts (.fieldLink RX9 57 "RiverModel" "trial" "LRiverModel$Course;") (List.mem_of_getElem? (i := 3) rfl)) (fun _ h9 => h9) rfl dX9_changedReading_58 ?_
        refine lv_aload_n hx hb dX9_changedReading_61 rfl (lv_at hl 2 rfl) ?_
        refine va_get (D := D) (ci := 8) (v := .ref r_16) (C := RX9) (T := TX9) (N := 18) hx hb hts in9 hown hK (va_one at_36) 0 rfl rfl 8 (by decide) (hts (.fieldLink RX9 46 "RiverModel" "startsB" "[I") (List.mem_of_getElem? (i := 16) rfl)) (fun _ h9 => h9) rfl dX9_changedReading_62 ?_
        obtain ⟨r_556, r_558, r_560, r_562, v_564, v_565, v_566, v_567, at_569, h_557, h_559, h_561, h_563, h_568⟩ := gF_o5 hG h_21
        refine ty_callv ((W.runV (As := [.ref r_16]) (rest := []) ⟨hx, hb, hml, hown, hts⟩ (s_X0_startFrom l D t cI cL cC gC gE G gW gA r_20 r_16 h_21 h_17) (cwV 1 hts gu_X9_changedReading_X0_startFrom_380 rfl rfl rfl (by decide +kernel) ⟨Nat.le_of_ble_eq_true rfl, Nat.le_of_ble_eq_true rfl⟩) (tP_V hG hE at_569 rfl) rfl rfl hl.1 rfl (lv_room (Nat.le_of_ble_eq_true rfl)) dX9_changedReading_65 ⟨Nat.le_of_ble_eq_true rfl, Nat.le_of_ble_eq_true rfl⟩)) hS (fun _ h => h) (fun H locs hp_571 hG hS o_572 => ?_)
        have at_36 := va_at.keptC at_36 o_572 k_a0 rfl
        refine lv_pc (pc2 := 68) rfl ?_
        refine lv_iconst (v := 0) hx hb dX9_changedReading_68 (by decide) ?_
        refine lv_istore (lv' := [(6, .int 0), (5, .ref r_14), (4, .ref r_4), (0, .ref a0), (1, .int a1), (2, .int a2), (3, .int a3)]) hx hb dX9_changedReading_69 hl (by decide) rfl (fun ls hl => ?_)
        refine lv_pc (pc2 := 71) rfl ?_
        refine lp_gen (fun WW hWW => ?_)
        have kx : ∀ (yh : Int32) (g : Nat) (H1 : Heap) (locs1 : List Loc) (ls1 : Array Slot), 0 ≤ yh.toInt → yh.toInt ≤ 96 → (g : Int) + (96 - yh.toInt) ≤ (G : Int) + 96 → tG D (gF cI cL cC gC gE g gW gA) t H1 → tF t wrC s.heap H1 locs1 → lv_has ls1 7 [(6, .int yh), (5, .ref r_14), (4, .ref r_4), (0, .ref a0), (1, .int a1), (2, .int a2), (3, .int a3)] → WW H1 locs1 (F0 m 94 ls1 []) := by
          intro yh g H locs ls v0 v1 v2 hG hS hl
          refine (hWW _ _ _).mpr ?_
          refine lv_aload_n hx hb dX9_changedReading_94 rfl (lv_at hl 3 rfl) ?_
          obtain ⟨r_573, r_575, r_577, r_579, v_581, v_582, r_583, r_585, r_587, r_589, r_591, r_593, r_595, v_597, r_599, r_601, r_603, r_605, at_607, h_574, h_576, h_578, h_580, h_584, h_586, h_588, h_590, h_592, h_594, h_596, h_598, h_600, h_602, h_604, h_606⟩ := gF_o1 hG k_a0
          refine va_get (D := D) (ci := 8) (v := .ref r_599) (C := RX9) (T := TX9) (N := 18) hx hb hts in9 hown hK (va_one at_607) 0 rfl rfl 14 (by decide) (hts (.fieldLink RX9 74 "RiverModel" "gauges" "LRiverModel$Gauges;") (List.mem_of_getElem? (i := 8) rfl)) (fun _ h9 => h9) rfl dX9_changedReading_95 ?_
          refine lv_aload_n hx hb dX9_changedReading_98 rfl (lv_at hl 3 rfl) ?_
          refine va_get (D := D) (ci := 8) (v := .ref r_591) (C := RX9) (T := TX9) (N := 18) hx hb hts in9 hown hK (va_one at_607) 0 rfl rfl 10 (by decide) (hts (.fieldLink RX9 57 "RiverModel" "trial" "LRiverModel$Course;") (List.mem_of_getElem? (i := 3) rfl)) (fun _ h9 => h9) rfl dX9_changedReading_99 ?_
          refine lv_iload_n hx hb dX9_changedReading_102 rfl (lv_at hl 5 rfl) ?_
          obtain ⟨r_608, r_610, r_612, at_614, h_609, h_611, h_613⟩ := gF_o6 hG h_600
          refine ty_calll ((W.runV (As := [.ref r_591, .int a2]) (rest := []) ⟨hx, hb, hml, hown, hts⟩ (s_X1_reading l D t cI cL cC gC gE g gW gA r_599 r_591 a2 h_600 h_592) (cwV 2 hts gu_X9_changedReading_X1_reading_215 rfl rfl rfl (by decide +kernel) ⟨Nat.le_of_ble_eq_true rfl, Nat.le_of_ble_eq_true rfl⟩) (tP_V hG hE at_614 rfl) rfl rfl hl.1 rfl (lv_room (Nat.le_of_ble_eq_true rfl)) dX9_changedReading_103 ⟨Nat.le_of_ble_eq_true rfl, Nat.le_of_ble_eq_true rfl⟩)) hS (fun k h => by simp [wr0] at h) (fun z_615 H locs hp_616 hG hS o_617 => ?_)
          have at_607 := va_at.keptC at_607 o_617 k_a0 rfl
          have at_614 := va_at.keptC at_614 o_617 h_600 rfl
          refine lv_pc (pc2 := 106) rfl ?_
          exact ty_lret hx hb hr hlk (hG.weak (fun _ _ => gF_mono (by omega))) hS True.intro dX9_changedReading_106
        have loop : ∀ (k : Nat) (yh : Int32) (g : Nat) (H1 : Heap) (locs1 : List Loc) (ls1 : Array Slot), 96 - yh.toInt ≤ (k : Int) → 0 ≤ yh.toInt → yh.toInt ≤ 96 → (g : Int) + (96 - yh.toInt) ≤ (G : Int) + 96 → tG D (gF cI cL cC gC gE g gW gA) t H1 → tF t wrC s.heap H1 locs1 → lv_has ls1 7 [(6, .int yh), (5, .ref r_14), (4, .ref r_4), (0, .ref a0), (1, .int a1), (2, .int a2), (3, .int a3)] → WW H1 locs1 (F0 m 71 ls1 []) := by
          intro k
          induction k with
          | zero =>
            intro yh g H locs ls hk v0 v1 v2 hG hS hl
            refine (hWW _ _ _).mpr ?_
            refine lv_iload hx hb dX9_changedReading_71 (lv_at hl 0 rfl) ?_
            refine lv_iload_n hx hb dX9_changedReading_73 rfl (lv_at hl 6 rfl) ?_
            refine lv_icmp_gt (tgt := 94) hx hb dX9_changedReading_74 (by decide) (fun c_618 => ?_) (fun c_618 => ?_)
            · skip
              have c_618 : a3.toInt < yh.toInt := q_lt c_618
              exact (hWW _ _ _).mp (kx yh g H locs ls (by omega) (by omega) (by omega) hG hS (lv_sub hl [0, 1, 2, 3, 4, 5, 6] rfl))
            · skip
              have c_618 : yh.toInt ≤ a3.toInt := q_nlt c_618
              refine lv_aload_n hx hb dX9_changedReading_77 rfl (lv_at hl 3 rfl) ?_
              obtain ⟨r_619, r_621, r_623, r_625, v_627, v_628, r_629, r_631, r_633, r_635, r_637, r_639, r_641, v_643, r_645, r_647, r_649, r_651, at_653, h_620, h_622, h_624, h_626, h_630, h_632, h_634, h_636, h_638, h_640, h_642, h_644, h_646, h_648, h_650, h_652⟩ := gF_o1 hG k_a0
              refine va_get (D := D) (ci := 8) (v := .ref r_637) (C := RX9) (T := TX9) (N := 18) hx hb hts in9 hown hK (va_one at_653) 0 rfl rfl 10 (by decide) (hts (.fieldLink RX9 57 "RiverModel" "trial" "LRiverModel$Course;") (List.mem_of_getElem? (i := 3) rfl)) (fun _ h9 => h9) rfl dX9_changedReading_78 ?_
              refine lv_aload hx hb dX9_changedReading_81 (lv_at hl 2 rfl) ?_
              refine lv_aload hx hb dX9_changedReading_83 (lv_at hl 1 rfl) ?_
              refine lv_pc (pc2 := 85) rfl ?_
              obtain ⟨r_654, r_656, r_658, r_660, v_662, v_663, v_664, v_665, at_667, h_655, h_657, h_659, h_661, h_666⟩ := gF_o5 hG h_638
              refine ty_callv ((W.runV (As := [.ref r_4, .ref r_14]) (rest := []) ⟨hx, hb, hml, hown, hts⟩ (s_X0_goHourBy l D t cI cL cC gC gE g gW gA r_637 r_4 r_14 (by omega) h_638 h_5 h_15) (cwV 2 hts gu_X9_changedReading_X0_goHourBy_151 rfl rfl rfl (by decide +kernel) ⟨Nat.le_of_ble_eq_true rfl, Nat.le_of_ble_eq_true rfl⟩) (tP_V hG hE at_667 rfl) rfl rfl hl.1 rfl (lv_room (Nat.le_of_ble_eq_true rfl)) dX9_changedReading_85 ⟨Nat.le_of_ble_eq_true rfl, Nat.le_of_ble_eq_true rfl⟩)) hS (fun _ h => h) (fun H locs hp_669 hG hS o_670 => ?_)
              have at_653 := va_at.keptC at_653 o_670 k_a0 rfl
              obtain ⟨x_671, e_672⟩ : ∃ y : Int32, y = yh + Int32.ofInt 1 := ⟨_, rfl⟩
              have i_x_671 : x_671.toInt = yh.toInt + 1 := by rw [e_672, show Int32.ofInt 1 = 1 by decide]; exact (q_add (by rw [show (1 : Int32).toInt = 1 by decide]; omega) (by rw [show (1 : Int32).toInt = 1 by decide]; omega)).trans (by rw [show (1 : Int32).toInt = 1 by decide])
              refine lv_iinc (v := x_671) (lv' := [(6, .int x_671), (5, .ref r_14), (4, .ref r_4), (0, .ref a0), (1, .int a1), (2, .int a2), (3, .int a3)]) hx hb dX9_changedReading_88 hl (k := 0) rfl e_672.symm (by decide) rfl (fun ls hl => ?_)
              refine lv_goto (tgt := 71) hx hb dX9_changedReading_91 (by decide) ?_
              exfalso; omega
          | succ k ih =>
            intro yh g H locs ls hk v0 v1 v2 hG hS hl
            refine (hWW _ _ _).mpr ?_
            refine lv_iload hx hb dX9_changedReading_71 (lv_at hl 0 rfl) ?_
            refine lv_iload_n hx hb dX9_changedReading_73 rfl (lv_at hl 6 rfl) ?_
            refine lv_icmp_gt (tgt := 94) hx hb dX9_changedReading_74 (by decide) (fun c_673 => ?_) (fun c_673 => ?_)
            · skip
              have c_673 : a3.toInt < yh.toInt := q_lt c_673
              exact (hWW _ _ _).mp (kx yh g H locs ls (by omega) (by omega) (by omega) hG hS (lv_sub hl [0, 1, 2, 3, 4, 5, 6] rfl))
            · skip
              have c_673 : yh.toInt ≤ a3.toInt := q_nlt c_673
              refine lv_aload_n hx hb dX9_changedReading_77 rfl (lv_at hl 3 rfl) ?_
              obtain ⟨r_674, r_676, r_678, r_680, v_682, v_683, r_684, r_686, r_688, r_690, r_692, r_694, r_696, v_698, r_700, r_702, r_704, r_706, at_708, h_675, h_677, h_679, h_681, h_685, h_687, h_689, h_691, h_693, h_695, h_697, h_699, h_701, h_703, h_705, h_707⟩ := gF_o1 hG k_a0
              refine va_get (D := D) (ci := 8) (v := .ref r_692) (C := RX9) (T := TX9) (N := 18) hx hb hts in9 hown hK (va_one at_708) 0 rfl rfl 10 (by decide) (hts (.fieldLink RX9 57 "RiverModel" "trial" "LRiverModel$Course;") (List.mem_of_getElem? (i := 3) rfl)) (fun _ h9 => h9) rfl dX9_changedReading_78 ?_
              refine lv_pc (pc2 := 81) rfl ?_
              refine lv_aload hx hb dX9_changedReading_81 (lv_at hl 2 rfl) ?_
              refine lv_aload hx hb dX9_changedReading_83 (lv_at hl 1 rfl) ?_
              obtain ⟨r_709, r_711, r_713, r_715, v_717, v_718, v_719, v_720, at_722, h_710, h_712, h_714, h_716, h_721⟩ := gF_o5 hG h_693
              refine ty_callv ((W.runV (As := [.ref r_4, .ref r_14]) (rest := []) ⟨hx, hb, hml, hown, hts⟩ (s_X0_goHourBy l D t cI cL cC gC gE g gW gA r_692 r_4 r_14 (by omega) h_693 h_5 h_15) (cwV 2 hts gu_X9_changedReading_X0_goHourBy_151 rfl rfl rfl (by decide +kernel) ⟨Nat.le_of_ble_eq_true rfl, Nat.le_of_ble_eq_true rfl⟩) (tP_V hG hE at_722 rfl) rfl rfl hl.1 rfl (lv_room (Nat.le_of_ble_eq_true rfl)) dX9_changedReading_85 ⟨Nat.le_of_ble_eq_true rfl, Nat.le_of_ble_eq_true rfl⟩)) hS (fun _ h => h) (fun H locs hp_724 hG hS o_725 => ?_)
              have at_708 := va_at.keptC at_708 o_725 k_a0 rfl
              obtain ⟨x_726, e_727⟩ : ∃ y : Int32, y = yh + Int32.ofInt 1 := ⟨_, rfl⟩
              have i_x_726 : x_726.toInt = yh.toInt + 1 := by rw [e_727, show Int32.ofInt 1 = 1 by decide]; exact (q_add (by rw [show (1 : Int32).toInt = 1 by decide]; omega) (by rw [show (1 : Int32).toInt = 1 by decide]; omega)).trans (by rw [show (1 : Int32).toInt = 1 by decide])
              refine lv_iinc (v := x_726) (lv' := [(6, .int x_726), (5, .ref r_14), (4, .ref r_4), (0, .ref a0), (1, .int a1), (2, .int a2), (3, .int a3)]) hx hb dX9_changedReading_88 hl (k := 0) rfl e_727.symm (by decide) rfl (fun ls hl => ?_)
              refine lv_goto (tgt := 71) hx hb dX9_changedReading_91 (by decide) ?_
              exact (hWW _ _ _).mp (ih x_726 (g + 1) H locs ls (by omega) (by omega) (by omega) (by omega) hG hS (lv_sub hl [0, 1, 2, 3, 4, 5, 6] rfl))
        have hz_yh : (0 : Int32).toInt = 0 := by decide
        exact loop (96 - 0 : Int).toNat 0 G H locs ls (by omega) (by omega) (by omega) (by omega) hG hS (lv_sub hl [0, 1, 2, 3, 4, 5, 6] rfl)
  · skip
    have c_1 : 3 ≤ a1.toInt := q_nlt c_1
    refine lv_aload_n hx hb dX9_changedReading_5 rfl (lv_at hl 0 rfl) ?_
    obtain ⟨r_728, r_730, r_732, r_734, v_736, v_737, r_738, r_740, r_742, r_744, r_746, r_748, r_750, v_752, r_754, r_756, r_758, r_760, at_762, h_729, h_731, h_733, h_735, h_739, h_741, h_743, h_745, h_747, h_749, h_751, h_753, h_755, h_757, h_759, h_761⟩ := gF_o1 hG k_a0
    refine va_get (D := D) (ci := 8) (v := .int v_737) (C := RX9) (T := TX9) (N := 18) hx hb hts in9 hown hK (va_one at_762) 0 rfl rfl 5 (by decide) (hts (.fieldLink RX9 33 "RiverModel" "isOtherLaid" "Z") (List.mem_of_getElem? (i := 21) rfl)) (fun _ h9 => h9) rfl dX9_changedReading_6 ?_
    refine lv_if_eq (tgt := 19) hx hb dX9_changedReading_9 (by decide) (fun c_763 => ?_) (fun c_763 => ?_)
    · skip
      have c_763 : v_737.toInt = 0 := q_eq c_763
      refine lv_pc (pc2 := 19) rfl ?_
      refine lv_aload_n hx hb dX9_changedReading_19 rfl (lv_at hl 0 rfl) ?_
      refine va_get (D := D) (ci := 8) (v := .ref r_730) (C := RX9) (T := TX9) (N := 18) hx hb hts in9 hown hK (va_one at_762) 0 rfl rfl 1 (by decide) (hts (.fieldLink RX9 19 "RiverModel" "model" "LRiverModel$Model;") (List.mem_of_getElem? (i := 1) rfl)) (fun _ h9 => h9) rfl dX9_changedReading_20 ?_
      refine lv_astore (lv' := [(4, .ref r_730), (0, .ref a0), (1, .int a1), (2, .int a2), (3, .int a3)]) hx hb dX9_changedReading_23 hl (by decide) rfl (fun ls hl => ?_)
      refine lv_iload_n hx hb dX9_changedReading_25 rfl (lv_at hl 2 rfl) ?_
      refine lv_iconst (v := 1) hx hb dX9_changedReading_26 (by decide) ?_
      refine lv_icmp_lt (tgt := 37) hx hb dX9_changedReading_27 (by decide) (fun c_764 => ?_) (fun c_764 => ?_)
      · skip
        have c_764 : a1.toInt < 1 := q_lt c_764
        refine lv_aload_n hx hb dX9_changedReading_37 rfl (lv_at hl 1 rfl) ?_
        refine va_get (D := D) (ci := 8) (v := .ref r_738) (C := RX9) (T := TX9) (N := 18) hx hb hts in9 hown hK (va_one at_762) 0 rfl rfl 6 (by decide) (hts (.fieldLink RX9 39 "RiverModel" "skyA" "LRiverModel$Sky;") (List.mem_of_getElem? (i := 2) rfl)) (fun _ h9 => h9) rfl dX9_changedReading_38 ?_
        refine lv_pc (pc2 := 41) rfl ?_
        refine lv_astore (lv' := [(5, .ref r_738), (4, .ref r_730), (0, .ref a0), (1, .int a1), (2, .int a2), (3, .int a3)]) hx hb dX9_changedReading_41 hl (by decide) rfl (fun ls hl => ?_)
        refine lv_aload_n hx hb dX9_changedReading_43 rfl (lv_at hl 2 rfl) ?_
        refine va_get (D := D) (ci := 8) (v := .ref r_746) (C := RX9) (T := TX9) (N := 18) hx hb hts in9 hown hK (va_one at_762) 0 rfl rfl 10 (by decide) (hts (.fieldLink RX9 57 "RiverModel" "trial" "LRiverModel$Course;") (List.mem_of_getElem? (i := 3) rfl)) (fun _ h9 => h9) rfl dX9_changedReading_44 ?_
        refine lv_aload hx hb dX9_changedReading_47 (lv_at hl 1 rfl) ?_
        obtain ⟨r_765, r_767, r_769, r_771, v_773, v_774, v_775, v_776, at_778, h_766, h_768, h_770, h_772, h_777⟩ := gF_o5 hG h_747
        refine ty_callv ((W.runV (As := [.ref r_730]) (rest := []) ⟨hx, hb, hml, hown, hts⟩ (s_X0_begin l D t cI cL cC gC gE G gW gA r_746 r_730 h_747 h_731) (cwV 1 hts gu_X9_changedReading_X0_begin_147 rfl rfl rfl (by decide +kernel) ⟨Nat.le_of_ble_eq_true rfl, Nat.le_of_ble_eq_true rfl⟩) (tP_V hG hE at_778 rfl) rfl rfl hl.1 rfl (lv_room (Nat.le_of_ble_eq_true rfl)) dX9_changedReading_49 ⟨Nat.le_of_ble_eq_true rfl, Nat.le_of_ble_eq_true rfl⟩)) hS (fun _ h => h) (fun H locs hp_780 hG hS o_781 => ?_)
        have at_762 := va_at.keptC at_762 o_781 k_a0 rfl
        refine lv_iload_n hx hb dX9_changedReading_52 rfl (lv_at hl 3 rfl) ?_
        refine lv_iconst (v := 2) hx hb dX9_changedReading_53 (by decide) ?_
        refine lv_icmp_lt (tgt := 68) hx hb dX9_changedReading_54 (by decide) (fun c_782 => ?_) (fun c_782 => ?_)
        · skip
          have c_782 : a1.toInt < 2 := q_lt c_782
          refine lv_pc (pc2 := 68) rfl ?_
          refine lv_iconst (v := 0) hx hb dX9_changedReading_68 (by decide) ?_
          refine lv_istore (lv' := [(6, .int 0), (5, .ref r_738), (4, .ref r_730), (0, .ref a0), (1, .int a1), (2, .int a2), (3, .int a3)]) hx hb dX9_changedReading_69 hl (by decide) rfl (fun ls hl => ?_)
          refine lv_pc (pc2 := 71) rfl ?_
          refine lp_gen (fun WW hWW => ?_)
          have kx : ∀ (yh : Int32) (g : Nat) (H1 : Heap) (locs1 : List Loc) (ls1 : Array Slot), 0 ≤ yh.toInt → yh.toInt ≤ 96 → (g : Int) + (96 - yh.toInt) ≤ (G : Int) + 96 → tG D (gF cI cL cC gC gE g gW gA) t H1 → tF t wrC s.heap H1 locs1 → lv_has ls1 7 [(6, .int yh), (5, .ref r_738), (4, .ref r_730), (0, .ref a0), (1, .int a1), (2, .int a2), (3, .int a3)] → WW H1 locs1 (F0 m 94 ls1 []) := by
            intro yh g H locs ls v0 v1 v2 hG hS hl
            refine (hWW _ _ _).mpr ?_
            refine lv_aload_n hx hb dX9_changedReading_94 rfl (lv_at hl 3 rfl) ?_
            obtain ⟨r_783, r_785, r_787, r_789, v_791, v_792, r_793, r_795, r_797, r_799, r_801, r_803, r_805, v_807, r_809, r_811, r_813, r_815, at_817, h_784, h_786, h_788, h_790, h_794, h_796, h_798, h_800, h_802, h_804, h_806, h_808, h_810, h_812, h_814, h_816⟩ := gF_o1 hG k_a0
            refine va_get (D := D) (ci := 8) (v := .ref r_809) (C := RX9) (T := TX9) (N := 18) hx hb hts in9 hown hK (va_one at_817) 0 rfl rfl 14 (by decide) (hts (.fieldLink RX9 74 "RiverModel" "gauges" "LRiverModel$Gauges;") (List.mem_of_getElem? (i := 8) rfl)) (fun _ h9 => h9) rfl dX9_changedReading_95 ?_
            refine lv_aload_n hx hb dX9_changedReading_98 rfl (lv_at hl 3 rfl) ?_
            refine va_get (D := D) (ci := 8) (v := .ref r_801) (C := RX9) (T := TX9) (N := 18) hx hb hts in9 hown hK (va_one at_817) 0 rfl rfl 10 (by decide) (hts (.fieldLink RX9 57 "RiverModel" "trial" "LRiverModel$Course;") (List.mem_of_getElem? (i := 3) rfl)) (fun _ h9 => h9) rfl dX9_changedReading_99 ?_
            refine lv_iload_n hx hb dX9_changedReading_102 rfl (lv_at hl 5 rfl) ?_
            obtain ⟨r_818, r_820, r_822, at_824, h_819, h_821, h_823⟩ := gF_o6 hG h_810
            refine ty_calll ((W.runV (As := [.ref r_801, .int a2]) (rest := []) ⟨hx, hb, hml, hown, hts⟩ (s_X1_reading l D t cI cL cC gC gE g gW gA r_809 r_801 a2 h_810 h_802) (cwV 2 hts gu_X9_changedReading_X1_reading_215 rfl rfl rfl (by decide +kernel) ⟨Nat.le_of_ble_eq_true rfl, Nat.le_of_ble_eq_true rfl⟩) (tP_V hG hE at_824 rfl) rfl rfl hl.1 rfl (lv_room (Nat.le_of_ble_eq_true rfl)) dX9_changedReading_103 ⟨Nat.le_of_ble_eq_true rfl, Nat.le_of_ble_eq_true rfl⟩)) hS (fun k h => by simp [wr0] at h) (fun z_825 H locs hp_826 hG hS o_827 => ?_)
            have at_817 := va_at.keptC at_817 o_827 k_a0 rfl
            have at_824 := va_at.keptC at_824 o_827 h_810 rfl
            refine lv_pc (pc2 := 106) rfl ?_
            exact ty_lret hx hb hr hlk (hG.weak (fun _ _ => gF_mono (by omega))) hS True.intro dX9_changedReading_106
          have loop : ∀ (k : Nat) (yh : Int32) (g : Nat) (H1 : Heap) (locs1 : List Loc) (ls1 : Array Slot), 96 - yh.toInt ≤ (k : Int) → 0 ≤ yh.toInt → yh.toInt ≤ 96 → (g : Int) + (96 - yh.toInt) ≤ (G : Int) + 96 → tG D (gF cI cL cC gC gE g gW gA) t H1 → tF t wrC s.heap H1 locs1 → lv_has ls1 7 [(6, .int yh), (5, .ref r_738), (4, .ref r_730), (0, .ref a0), (1, .int a1), (2, .int a2), (3, .int a3)] → WW H1 locs1 (F0 m 71 ls1 []) := by
            intro k
            induction k with
            | zero =>
              intro yh g H locs ls hk v0 v1 v2 hG hS hl
              refine (hWW _ _ _).mpr ?_
              refine lv_iload hx hb dX9_changedReading_71 (lv_at hl 0 rfl) ?_
              refine lv_iload_n hx hb dX9_changedReading_73 rfl (lv_at hl 6 rfl) ?_
              refine lv_icmp_gt (tgt := 94) hx hb dX9_changedReading_74 (by decide) (fun c_828 => ?_) (fun c_828 => ?_)
              · skip
                have c_828 : a3.toInt < yh.toInt := q_lt c_828
                exact (hWW _ _ _).mp (kx yh g H locs ls (by omega) (by omega) (by omega) hG hS (lv_sub hl [0, 1, 2, 3, 4, 5, 6] rfl))
              · skip
                have c_828 : yh.toInt ≤ a3.toInt := q_nlt c_828
                refine lv_aload_n hx hb dX9_changedReading_77 rfl (lv_at hl 3 rfl) ?_
                obtain ⟨r_829, r_831, r_833, r_835, v_837, v_838, r_839, r_841, r_843, r_845, r_847, r_849, r_851, v_853, r_855, r_857, r_859, r_861, at_863, h_830, h_832, h_834, h_836, h_840, h_842, h_844, h_846, h_848, h_850, h_852, h_854, h_856, h_858, h_860, h_862⟩ := gF_o1 hG k_a0
                refine va_get (D := D) (ci := 8) (v := .ref r_847) (C := RX9) (T := TX9) (N := 18) hx hb hts in9 hown hK (va_one at_863) 0 rfl rfl 10 (by decide) (hts (.fieldLink RX9 57 "RiverModel" "trial" "LRiverModel$Course;") (List.mem_of_getElem? (i := 3) rfl)) (fun _ h9 => h9) rfl dX9_changedReading_78 ?_
                refine lv_aload hx hb dX9_changedReading_81 (lv_at hl 2 rfl) ?_
                refine lv_aload hx hb dX9_changedReading_83 (lv_at hl 1 rfl) ?_
                refine lv_pc (pc2 := 85) rfl ?_
                obtain ⟨r_864, r_866, r_868, r_870, v_872, v_873, v_874, v_875, at_877, h_865, h_867, h_869, h_871, h_876⟩ := gF_o5 hG h_848
                refine ty_callv ((W.runV (As := [.ref r_730, .ref r_738]) (rest := []) ⟨hx, hb, hml, hown, hts⟩ (s_X0_goHourBy l D t cI cL cC gC gE g gW gA r_847 r_730 r_738 (by omega) h_848 h_731 h_739) (cwV 2 hts gu_X9_changedReading_X0_goHourBy_151 rfl rfl rfl (by decide +kernel) ⟨Nat.le_of_ble_eq_true rfl, Nat.le_of_ble_eq_true rfl⟩) (tP_V hG hE at_877 rfl) rfl rfl hl.1 rfl (lv_room (Nat.le_of_ble_eq_true rfl)) dX9_changedReading_85 ⟨Nat.le_of_ble_eq_true rfl, Nat.le_of_ble_eq_true rfl⟩)) hS (fun _ h => h) (fun H locs hp_879 hG hS o_880 => ?_)
                have at_863 := va_at.keptC at_863 o_880 k_a0 rfl
                obtain ⟨x_881, e_882⟩ : ∃ y : Int32, y = yh + Int32.ofInt 1 := ⟨_, rfl⟩
                have i_x_881 : x_881.toInt = yh.toInt + 1 := by rw [e_882, show Int32.ofInt 1 = 1 by decide]; exact (q_add (by rw [show (1 : Int32).toInt = 1 by decide]; omega) (by rw [show (1 : Int32).toInt = 1 by decide]; omega)).trans (by rw [show (1 : Int32).toInt = 1 by decide])
                refine lv_iinc (v := x_881) (lv' := [(6, .int x_881), (5, .ref r_738), (4, .ref r_730), (0, .ref a0), (1, .int a1), (2, .int a2), (3, .int a3)]) hx hb dX9_changedReading_88 hl (k := 0) rfl e_882.symm (by decide) rfl (fun ls hl => ?_)
                refine lv_goto (tgt := 71) hx hb dX9_changedReading_91 (by decide) ?_
                exfalso; omega
            | succ k ih =>
              intro yh g H locs ls hk v0 v1 v2 hG hS hl
              refine (hWW _ _ _).mpr ?_
              refine lv_iload hx hb dX9_changedReading_71 (lv_at hl 0 rfl) ?_
              refine lv_iload_n hx hb dX9_changedReading_73 rfl (lv_at hl 6 rfl) ?_
              refine lv_icmp_gt (tgt := 94) hx hb dX9_changedReading_74 (by decide) (fun c_883 => ?_) (fun c_883 => ?_)
              · skip
                have c_883 : a3.toInt < yh.toInt := q_lt c_883
                exact (hWW _ _ _).mp (kx yh g H locs ls (by omega) (by omega) (by omega) hG hS (lv_sub hl [0, 1, 2, 3, 4, 5, 6] rfl))
              · skip
                have c_883 : yh.toInt ≤ a3.toInt := q_nlt c_883
                refine lv_aload_n hx hb dX9_changedReading_77 rfl (lv_at hl 3 rfl) ?_
                obtain ⟨r_884, r_886, r_888, r_890, v_892, v_893, r_894, r_896, r_898, r_900, r_902, r_904, r_906, v_908, r_910, r_912, r_914, r_916, at_918, h_885, h_887, h_889, h_891, h_895, h_897, h_899, h_901, h_903, h_905, h_907, h_909, h_911, h_913, h_915, h_917⟩ := gF_o1 hG k_a0
                refine va_get (D := D) (ci := 8) (v := .ref r_902) (C := RX9) (T := TX9) (N := 18) hx hb hts in9 hown hK (va_one at_918) 0 rfl rfl 10 (by decide) (hts (.fieldLink RX9 57 "RiverModel" "trial" "LRiverModel$Course;") (List.mem_of_getElem? (i := 3) rfl)) (fun _ h9 => h9) rfl dX9_changedReading_78 ?_
                refine lv_pc (pc2 := 81) rfl ?_
                refine lv_aload hx hb dX9_changedReading_81 (lv_at hl 2 rfl) ?_
                refine lv_aload hx hb dX9_changedReading_83 (lv_at hl 1 rfl) ?_
                obtain ⟨r_919, r_921, r_923, r_925, v_927, v_928, v_929, v_930, at_932, h_920, h_922, h_924, h_926, h_931⟩ := gF_o5 hG h_903
                refine ty_callv ((W.runV (As := [.ref r_730, .ref r_738]) (rest := []) ⟨hx, hb, hml, hown, hts⟩ (s_X0_goHourBy l D t cI cL cC gC gE g gW gA r_902 r_730 r_738 (by omega) h_903 h_731 h_739) (cwV 2 hts gu_X9_changedReading_X0_goHourBy_151 rfl rfl rfl (by decide +kernel) ⟨Nat.le_of_ble_eq_true rfl, Nat.le_of_ble_eq_true rfl⟩) (tP_V hG hE at_932 rfl) rfl rfl hl.1 rfl (lv_room (Nat.le_of_ble_eq_true rfl)) dX9_changedReading_85 ⟨Nat.le_of_ble_eq_true rfl, Nat.le_of_ble_eq_true rfl⟩)) hS (fun _ h => h) (fun H locs hp_934 hG hS o_935 => ?_)
                have at_918 := va_at.keptC at_918 o_935 k_a0 rfl
                obtain ⟨x_936, e_937⟩ : ∃ y : Int32, y = yh + Int32.ofInt 1 := ⟨_, rfl⟩
                have i_x_936 : x_936.toInt = yh.toInt + 1 := by rw [e_937, show Int32.ofInt 1 = 1 by decide]; exact (q_add (by rw [show (1 : Int32).toInt = 1 by decide]; omega) (by rw [show (1 : Int32).toInt = 1 by decide]; omega)).trans (by rw [show (1 : Int32).toInt = 1 by decide])
                refine lv_iinc (v := x_936) (lv' := [(6, .int x_936), (5, .ref r_738), (4, .ref r_730), (0, .ref a0), (1, .int a1), (2, .int a2), (3, .int a3)]) hx hb dX9_changedReading_88 hl (k := 0) rfl e_937.symm (by decide) rfl (fun ls hl => ?_)
                refine lv_goto (tgt := 71) hx hb dX9_changedReading_91 (by decide) ?_
                exact (hWW _ _ _).mp (ih x_936 (g + 1) H locs ls (by omega) (by omega) (by omega) (by omega) hG hS (lv_sub hl [0, 1, 2, 3, 4, 5, 6] rfl))
          have hz_yh : (0 : Int32).toInt = 0 := by decide
          exact loop (96 - 0 : Int).toNat 0 G H locs ls (by omega) (by omega) (by omega) (by omega) hG hS (lv_sub hl [0, 1, 2, 3, 4, 5, 6] rfl)
        · skip
          have c_782 : 2 ≤ a1.toInt := q_nlt c_782
          refine lv_aload_n hx hb dX9_changedReading_57 rfl (lv_at hl 2 rfl) ?_
          refine va_get (D := D) (ci := 8) (v := .ref r_746) (C := RX9) (T := TX9) (N := 18) hx hb hts in9 hown hK (va_one at_762) 0 rfl rfl 10 (by decide) (hts (.fieldLink RX9 57 "RiverModel" "trial" "LRiverModel$Course;") (List.mem_of_getElem? (i := 3) rfl)) (fun _ h9 => h9) rfl dX9_changedReading_58 ?_
          refine lv_aload_n hx hb dX9_changedReading_61 rfl (lv_at hl 2 rfl) ?_
          refine lv_pc (pc2 := 62) rfl ?_
          refine va_get (D := D) (ci := 8) (v := .ref r_742) (C := RX9) (T := TX9) (N := 18) hx hb hts in9 hown hK (va_one at_762) 0 rfl rfl 8 (by decide) (hts (.fieldLink RX9 46 "RiverModel" "startsB" "[I") (List.mem_of_getElem? (i := 16) rfl)) (fun _ h9 => h9) rfl dX9_changedReading_62 ?_
          obtain ⟨r_938, r_940, r_942, r_944, v_946, v_947, v_948, v_949, at_951, h_939, h_941, h_943, h_945, h_950⟩ := gF_o5 hG h_747
          refine ty_callv ((W.runV (As := [.ref r_742]) (rest := []) ⟨hx, hb, hml, hown, hts⟩ (s_X0_startFrom l D t cI cL cC gC gE G gW gA r_746 r_742 h_747 h_743) (cwV 1 hts gu_X9_changedReading_X0_startFrom_380 rfl rfl rfl (by decide +kernel) ⟨Nat.le_of_ble_eq_true rfl, Nat.le_of_ble_eq_true rfl⟩) (tP_V hG hE at_951 rfl) rfl rfl hl.1 rfl (lv_room (Nat.le_of_ble_eq_true rfl)) dX9_changedReading_65 ⟨Nat.le_of_ble_eq_true rfl, Nat.le_of_ble_eq_true rfl⟩)) hS (fun _ h => h) (fun H locs hp_953 hG hS o_954 => ?_)
          have at_762 := va_at.keptC at_762 o_954 k_a0 rfl
          refine lv_iconst (v := 0) hx hb dX9_changedReading_68 (by decide) ?_
          refine lv_istore (lv' := [(6, .int 0), (5, .ref r_738), (4, .ref r_730), (0, .ref a0), (1, .int a1), (2, .int a2), (3, .int a3)]) hx hb dX9_changedReading_69 hl (by decide) rfl (fun ls hl => ?_)
          refine lv_pc (pc2 := 71) rfl ?_
          refine lp_gen (fun WW hWW => ?_)
          have kx : ∀ (yh : Int32) (g : Nat) (H1 : Heap) (locs1 : List Loc) (ls1 : Array Slot), 0 ≤ yh.toInt → yh.toInt ≤ 96 → (g : Int) + (96 - yh.toInt) ≤ (G : Int) + 96 → tG D (gF cI cL cC gC gE g gW gA) t H1 → tF t wrC s.heap H1 locs1 → lv_has ls1 7 [(6, .int yh), (5, .ref r_738), (4, .ref r_730), (0, .ref a0), (1, .int a1), (2, .int a2), (3, .int a3)] → WW H1 locs1 (F0 m 94 ls1 []) := by
            intro yh g H locs ls v0 v1 v2 hG hS hl
            refine (hWW _ _ _).mpr ?_
            refine lv_aload_n hx hb dX9_changedReading_94 rfl (lv_at hl 3 rfl) ?_
            obtain ⟨r_955, r_957, r_959, r_961, v_963, v_964, r_965, r_967, r_969, r_971, r_973, r_975, r_977, v_979, r_981, r_983, r_985, r_987, at_989, h_956, h_958, h_960, h_962, h_966, h_968, h_970, h_972, h_974, h_976, h_978, h_980, h_982, h_984, h_986, h_988⟩ := gF_o1 hG k_a0
            refine va_get (D := D) (ci := 8) (v := .ref r_981) (C := RX9) (T := TX9) (N := 18) hx hb hts in9 hown hK (va_one at_989) 0 rfl rfl 14 (by decide) (hts (.fieldLink RX9 74 "RiverModel" "gauges" "LRiverModel$Gauges;") (List.mem_of_getElem? (i := 8) rfl)) (fun _ h9 => h9) rfl dX9_changedReading_95 ?_
            refine lv_aload_n hx hb dX9_changedReading_98 rfl (lv_at hl 3 rfl) ?_
            refine va_get (D := D) (ci := 8) (v := .ref r_973) (C := RX9) (T := TX9) (N := 18) hx hb hts in9 hown hK (va_one at_989) 0 rfl rfl 10 (by decide) (hts (.fieldLink RX9 57 "RiverModel" "trial" "LRiverModel$Course;") (List.mem_of_getElem? (i := 3) rfl)) (fun _ h9 => h9) rfl dX9_changedReading_99 ?_
            refine lv_pc (pc2 := 102) rfl ?_
            refine lv_iload_n hx hb dX9_changedReading_102 rfl (lv_at hl 5 rfl) ?_
            obtain ⟨r_990, r_992, r_994, at_996, h_991, h_993, h_995⟩ := gF_o6 hG h_982
            refine ty_calll ((W.runV (As := [.ref r_973, .int a2]) (rest := []) ⟨hx, hb, hml, hown, hts⟩ (s_X1_reading l D t cI cL cC gC gE g gW gA r_981 r_973 a2 h_982 h_974) (cwV 2 hts gu_X9_changedReading_X1_reading_215 rfl rfl rfl (by decide +kernel) ⟨Nat.le_of_ble_eq_true rfl, Nat.le_of_ble_eq_true rfl⟩) (tP_V hG hE at_996 rfl) rfl rfl hl.1 rfl (lv_room (Nat.le_of_ble_eq_true rfl)) dX9_changedReading_103 ⟨Nat.le_of_ble_eq_true rfl, Nat.le_of_ble_eq_true rfl⟩)) hS (fun k h => by simp [wr0] at h) (fun z_997 H locs hp_998 hG hS o_999 => ?_)
            have at_989 := va_at.keptC at_989 o_999 k_a0 rfl
            have at_996 := va_at.keptC at_996 o_999 h_982 rfl
            exact ty_lret hx hb hr hlk (hG.weak (fun _ _ => gF_mono (by omega))) hS True.intro dX9_changedReading_106
          have loop : ∀ (k : Nat) (yh : Int32) (g : Nat) (H1 : Heap) (locs1 : List Loc) (ls1 : Array Slot), 96 - yh.toInt ≤ (k : Int) → 0 ≤ yh.toInt → yh.toInt ≤ 96 → (g : Int) + (96 - yh.toInt) ≤ (G : Int) + 96 → tG D (gF cI cL cC gC gE g gW gA) t H1 → tF t wrC s.heap H1 locs1 → lv_has ls1 7 [(6, .int yh), (5, .ref r_738), (4, .ref r_730), (0, .ref a0), (1, .int a1), (2, .int a2), (3, .int a3)] → WW H1 locs1 (F0 m 71 ls1 []) := by
            intro k
            induction k with
            | zero =>
              intro yh g H locs ls hk v0 v1 v2 hG hS hl
              refine (hWW _ _ _).mpr ?_
              refine lv_iload hx hb dX9_changedReading_71 (lv_at hl 0 rfl) ?_
              refine lv_iload_n hx hb dX9_changedReading_73 rfl (lv_at hl 6 rfl) ?_
              refine lv_icmp_gt (tgt := 94) hx hb dX9_changedReading_74 (by decide) (fun c_1000 => ?_) (fun c_1000 => ?_)
              · skip
                have c_1000 : a3.toInt < yh.toInt := q_lt c_1000
                exact (hWW _ _ _).mp (kx yh g H locs ls (by omega) (by omega) (by omega) hG hS (lv_sub hl [0, 1, 2, 3, 4, 5, 6] rfl))
              · skip
                have c_1000 : yh.toInt ≤ a3.toInt := q_nlt c_1000
                refine lv_aload_n hx hb dX9_changedReading_77 rfl (lv_at hl 3 rfl) ?_
                obtain ⟨r_1001, r_1003, r_1005, r_1007, v_1009, v_1010, r_1011, r_1013, r_1015, r_1017, r_1019, r_1021, r_1023, v_1025, r_1027, r_1029, r_1031, r_1033, at_1035, h_1002, h_1004, h_1006, h_1008, h_1012, h_1014, h_1016, h_1018, h_1020, h_1022, h_1024, h_1026, h_1028, h_1030, h_1032, h_1034⟩ := gF_o1 hG k_a0
                refine va_get (D := D) (ci := 8) (v := .ref r_1019) (C := RX9) (T := TX9) (N := 18) hx hb hts in9 hown hK (va_one at_1035) 0 rfl rfl 10 (by decide) (hts (.fieldLink RX9 57 "RiverModel" "trial" "LRiverModel$Course;") (List.mem_of_getElem? (i := 3) rfl)) (fun _ h9 => h9) rfl dX9_changedReading_78 ?_
                refine lv_pc (pc2 := 81) rfl ?_
                refine lv_aload hx hb dX9_changedReading_81 (lv_at hl 2 rfl) ?_
                refine lv_aload hx hb dX9_changedReading_83 (lv_at hl 1 rfl) ?_
                obtain ⟨r_1036, r_1038, r_1040, r_1042, v_1044, v_1045, v_1046, v_1047, at_1049, h_1037, h_1039, h_1041, h_1043, h_1048⟩ := gF_o5 hG h_1020
                refine ty_callv ((W.runV (As := [.ref r_730, .ref r_738]) (rest := []) ⟨hx, hb, hml, hown, hts⟩ (s_X0_goHourBy l D t cI cL cC gC gE g gW gA r_1019 r_730 r_738 (by omega) h_1020 h_731 h_739) (cwV 2 hts gu_X9_changedReading_X0_goHourBy_151 rfl rfl rfl (by decide +kernel) ⟨Nat.le_of_ble_eq_true rfl, Nat.le_of_ble_eq_true rfl⟩) (tP_V hG hE at_1049 rfl) rfl rfl hl.1 rfl (lv_room (Nat.le_of_ble_eq_true rfl)) dX9_changedReading_85 ⟨Nat.le_of_ble_eq_true rfl, Nat.le_of_ble_eq_true rfl⟩)) hS (fun _ h => h) (fun H locs hp_1051 hG hS o_1052 => ?_)
                have at_1035 := va_at.keptC at_1035 o_1052 k_a0 rfl
                obtain ⟨x_1053, e_1054⟩ : ∃ y : Int32, y = yh + Int32.ofInt 1 := ⟨_, rfl⟩
                have i_x_1053 : x_1053.toInt = yh.toInt + 1 := by rw [e_1054, show Int32.ofInt 1 = 1 by decide]; exact (q_add (by rw [show (1 : Int32).toInt = 1 by decide]; omega) (by rw [show (1 : Int32).toInt = 1 by decide]; omega)).trans (by rw [show (1 : Int32).toInt = 1 by decide])
                refine lv_iinc (v := x_1053) (lv' := [(6, .int x_1053), (5, .ref r_738), (4, .ref r_730), (0, .ref a0), (1, .int a1), (2, .int a2), (3, .int a3)]) hx hb dX9_changedReading_88 hl (k := 0) rfl e_1054.symm (by decide) rfl (fun ls hl => ?_)
                refine lv_goto (tgt := 71) hx hb dX9_changedReading_91 (by decide) ?_
                exfalso; omega
            | succ k ih =>
              intro yh g H locs ls hk v0 v1 v2 hG hS hl
              refine (hWW _ _ _).mpr ?_
              refine lv_iload hx hb dX9_changedReading_71 (lv_at hl 0 rfl) ?_
              refine lv_iload_n hx hb dX9_changedReading_73 rfl (lv_at hl 6 rfl) ?_
              refine lv_icmp_gt (tgt := 94) hx hb dX9_changedReading_74 (by decide) (fun c_1055 => ?_) (fun c_1055 => ?_)
              · skip
                have c_1055 : a3.toInt < yh.toInt := q_lt c_1055
                exact (hWW _ _ _).mp (kx yh g H locs ls (by omega) (by omega) (by omega) hG hS (lv_sub hl [0, 1, 2, 3, 4, 5, 6] rfl))
              · skip
                have c_1055 : yh.toInt ≤ a3.toInt := q_nlt c_1055
                refine lv_pc (pc2 := 77) rfl ?_
                refine lv_aload_n hx hb dX9_changedReading_77 rfl (lv_at hl 3 rfl) ?_
                obtain ⟨r_1056, r_1058, r_1060, r_1062, v_1064, v_1065, r_1066, r_1068, r_1070, r_1072, r_1074, r_1076, r_1078, v_1080, r_1082, r_1084, r_1086, r_1088, at_1090, h_1057, h_1059, h_1061, h_1063, h_1067, h_1069, h_1071, h_1073, h_1075, h_1077, h_1079, h_1081, h_1083, h_1085, h_1087, h_1089⟩ := gF_o1 hG k_a0
                refine va_get (D := D) (ci := 8) (v := .ref r_1074) (C := RX9) (T := TX9) (N := 18) hx hb hts in9 hown hK (va_one at_1090) 0 rfl rfl 10 (by decide) (hts (.fieldLink RX9 57 "RiverModel" "trial" "LRiverModel$Course;") (List.mem_of_getElem? (i := 3) rfl)) (fun _ h9 => h9) rfl dX9_changedReading_78 ?_
                refine lv_aload hx hb dX9_changedReading_81 (lv_at hl 2 rfl) ?_
                refine lv_aload hx hb dX9_changedReading_83 (lv_at hl 1 rfl) ?_
                obtain ⟨r_1091, r_1093, r_1095, r_1097, v_1099, v_1100, v_1101, v_1102, at_1104, h_1092, h_1094, h_1096, h_1098, h_1103⟩ := gF_o5 hG h_1075
                refine ty_callv ((W.runV (As := [.ref r_730, .ref r_738]) (rest := []) ⟨hx, hb, hml, hown, hts⟩ (s_X0_goHourBy l D t cI cL cC gC gE g gW gA r_1074 r_730 r_738 (by omega) h_1075 h_731 h_739) (cwV 2 hts gu_X9_changedReading_X0_goHourBy_151 rfl rfl rfl (by decide +kernel) ⟨Nat.le_of_ble_eq_true rfl, Nat.le_of_ble_eq_true rfl⟩) (tP_V hG hE at_1104 rfl) rfl rfl hl.1 rfl (lv_room (Nat.le_of_ble_eq_true rfl)) dX9_changedReading_85 ⟨Nat.le_of_ble_eq_true rfl, Nat.le_of_ble_eq_true rfl⟩)) hS (fun _ h => h) (fun H locs hp_1106 hG hS o_1107 => ?_)
                have at_1090 := va_at.keptC at_1090 o_1107 k_a0 rfl
                obtain ⟨x_1108, e_1109⟩ : ∃ y : Int32, y = yh + Int32.ofInt 1 := ⟨_, rfl⟩
                have i_x_1108 : x_1108.toInt = yh.toInt + 1 := by rw [e_1109, show Int32.ofInt 1 = 1 by decide]; exact (q_add (by rw [show (1 : Int32).toInt = 1 by decide]; omega) (by rw [show (1 : Int32).toInt = 1 by decide]; omega)).trans (by rw [show (1 : Int32).toInt = 1 by decide])
                refine lv_iinc (v := x_1108) (lv' := [(6, .int x_1108), (5, .ref r_738), (4, .ref r_730), (0, .ref a0), (1, .int a1), (2, .int a2), (3, .int a3)]) hx hb dX9_changedReading_88 hl (k := 0) rfl e_1109.symm (by decide) rfl (fun ls hl => ?_)
                refine lv_goto (tgt := 71) hx hb dX9_changedReading_91 (by decide) ?_
                exact (hWW _ _ _).mp (ih x_1108 (g + 1) H locs ls (by omega) (by omega) (by omega) (by omega) hG hS (lv_sub hl [0, 1, 2, 3, 4, 5, 6] rfl))
          have hz_yh : (0 : Int32).toInt = 0 := by decide
          exact loop (96 - 0 : Int).toNat 0 G H locs ls (by omega) (by omega) (by omega) (by omega) hG hS (lv_sub hl [0, 1, 2, 3, 4, 5, 6] rfl)
      · skip
        have c_764 : 1 ≤ a1.toInt := q_nlt c_764
        refine lv_aload_n hx hb dX9_changedReading_30 rfl (lv_at hl 1 rfl) ?_
        refine lv_pc (pc2 := 31) rfl ?_
        refine va_get (D := D) (ci := 8) (v := .ref r_740) (C := RX9) (T := TX9) (N := 18) hx hb hts in9 hown hK (va_one at_762) 0 rfl rfl 7 (by decide) (hts (.fieldLink RX9 43 "RiverModel" "skyB" "LRiverModel$Sky;") (List.mem_of_getElem? (i := 20) rfl)) (fun _ h9 => h9) rfl dX9_changedReading_31 ?_
        refine lv_goto (tgt := 41) hx hb dX9_changedReading_34 (by decide) ?_
        refine lv_astore (lv' := [(5, .ref r_740), (4, .ref r_730), (0, .ref a0), (1, .int a1), (2, .int a2), (3, .int a3)]) hx hb dX9_changedReading_41 hl (by decide) rfl (fun ls hl => ?_)
        refine lv_aload_n hx hb dX9_changedReading_43 rfl (lv_at hl 2 rfl) ?_
        refine va_get (D := D) (ci := 8) (v := .ref r_746) (C := RX9) (T := TX9) (N := 18) hx hb hts in9 hown hK (va_one at_762) 0 rfl rfl 10 (by decide) (hts (.fieldLink RX9 57 "RiverModel" "trial" "LRiverModel$Course;") (List.mem_of_getElem? (i := 3) rfl)) (fun _ h9 => h9) rfl dX9_changedReading_44 ?_
        refine lv_aload hx hb dX9_changedReading_47 (lv_at hl 1 rfl) ?_
        obtain ⟨r_1110, r_1112, r_1114, r_1116, v_1118, v_1119, v_1120, v_1121, at_1123, h_1111, h_1113, h_1115, h_1117, h_1122⟩ := gF_o5 hG h_747
        refine ty_callv ((W.runV (As := [.ref r_730]) (rest := []) ⟨hx, hb, hml, hown, hts⟩ (s_X0_begin l D t cI cL cC gC gE G gW gA r_746 r_730 h_747 h_731) (cwV 1 hts gu_X9_changedReading_X0_begin_147 rfl rfl rfl (by decide +kernel) ⟨Nat.le_of_ble_eq_true rfl, Nat.le_of_ble_eq_true rfl⟩) (tP_V hG hE at_1123 rfl) rfl rfl hl.1 rfl (lv_room (Nat.le_of_ble_eq_true rfl)) dX9_changedReading_49 ⟨Nat.le_of_ble_eq_true rfl, Nat.le_of_ble_eq_true rfl⟩)) hS (fun _ h => h) (fun H locs hp_1125 hG hS o_1126 => ?_)
        have at_762 := va_at.keptC at_762 o_1126 k_a0 rfl
        refine lv_iload_n hx hb dX9_changedReading_52 rfl (lv_at hl 3 rfl) ?_
        refine lv_pc (pc2 := 53) rfl ?_
        refine lv_iconst (v := 2) hx hb dX9_changedReading_53 (by decide) ?_
        refine lv_icmp_lt (tgt := 68) hx hb dX9_changedReading_54 (by decide) (fun c_1127 => ?_) (fun c_1127 => ?_)
        · skip
          have c_1127 : a1.toInt < 2 := q_lt c_1127
          refine lv_iconst (v := 0) hx hb dX9_changedReading_68 (by decide) ?_
          refine lv_istore (lv' := [(6, .int 0), (5, .ref r_740), (4, .ref r_730), (0, .ref a0), (1, .int a1), (2, .int a2), (3, .int a3)]) hx hb dX9_changedReading_69 hl (by decide) rfl (fun ls hl => ?_)
          refine lv_pc (pc2 := 71) rfl ?_
          refine lp_gen (fun WW hWW => ?_)
          have kx : ∀ (yh : Int32) (g : Nat) (H1 : Heap) (locs1 : List Loc) (ls1 : Array Slot), 0 ≤ yh.toInt → yh.toInt ≤ 96 → (g : Int) + (96 - yh.toInt) ≤ (G : Int) + 96 → tG D (gF cI cL cC gC gE g gW gA) t H1 → tF t wrC s.heap H1 locs1 → lv_has ls1 7 [(6, .int yh), (5, .ref r_740), (4, .ref r_730), (0, .ref a0), (1, .int a1), (2, .int a2), (3, .int a3)] → WW H1 locs1 (F0 m 94 ls1 []) := by
            intro yh g H locs ls v0 v1 v2 hG hS hl
            refine (hWW _ _ _).mpr ?_
            refine lv_aload_n hx hb dX9_changedReading_94 rfl (lv_at hl 3 rfl) ?_
            obtain ⟨r_1128, r_1130, r_1132, r_1134, v_1136, v_1137, r_1138, r_1140, r_1142, r_1144, r_1146, r_1148, r_1150, v_1152, r_1154, r_1156, r_1158, r_1160, at_1162, h_1129, h_1131, h_1133, h_1135, h_1139, h_1141, h_1143, h_1145, h_1147, h_1149, h_1151, h_1153, h_1155, h_1157, h_1159, h_1161⟩ := gF_o1 hG k_a0
            refine va_get (D := D) (ci := 8) (v := .ref r_1154) (C := RX9) (T := TX9) (N := 18) hx hb hts in9 hown hK (va_one at_1162) 0 rfl rfl 14 (by decide) (hts (.fieldLink RX9 74 "RiverModel" "gauges" "LRiverModel$Gauges;") (List.mem_of_getElem? (i := 8) rfl)) (fun _ h9 => h9) rfl dX9_changedReading_95 ?_
            refine lv_aload_n hx hb dX9_changedReading_98 rfl (lv_at hl 3 rfl) ?_
            refine va_get (D := D) (ci := 8) (v := .ref r_1146) (C := RX9) (T := TX9) (N := 18) hx hb hts in9 hown hK (va_one at_1162) 0 rfl rfl 10 (by decide) (hts (.fieldLink RX9 57 "RiverModel" "trial" "LRiverModel$Course;") (List.mem_of_getElem? (i := 3) rfl)) (fun _ h9 => h9) rfl dX9_changedReading_99 ?_
            refine lv_pc (pc2 := 102) rfl ?_
            refine lv_iload_n hx hb dX9_changedReading_102 rfl (lv_at hl 5 rfl) ?_
            obtain ⟨r_1163, r_1165, r_1167, at_1169, h_1164, h_1166, h_1168⟩ := gF_o6 hG h_1155
            refine ty_calll ((W.runV (As := [.ref r_1146, .int a2]) (rest := []) ⟨hx, hb, hml, hown, hts⟩ (s_X1_reading l D t cI cL cC gC gE g gW gA r_1154 r_1146 a2 h_1155 h_1147) (cwV 2 hts gu_X9_changedReading_X1_reading_215 rfl rfl rfl (by decide +kernel) ⟨Nat.le_of_ble_eq_true rfl, Nat.le_of_ble_eq_true rfl⟩) (tP_V hG hE at_1169 rfl) rfl rfl hl.1 rfl (lv_room (Nat.le_of_ble_eq_true rfl)) dX9_changedReading_103 ⟨Nat.le_of_ble_eq_true rfl, Nat.le_of_ble_eq_true rfl⟩)) hS (fun k h => by simp [wr0] at h) (fun z_1170 H locs hp_1171 hG hS o_1172 => ?_)
            have at_1162 := va_at.keptC at_1162 o_1172 k_a0 rfl
            have at_1169 := va_at.keptC at_1169 o_1172 h_1155 rfl
            exact ty_lret hx hb hr hlk (hG.weak (fun _ _ => gF_mono (by omega))) hS True.intro dX9_changedReading_106
          have loop : ∀ (k : Nat) (yh : Int32) (g : Nat) (H1 : Heap) (locs1 : List Loc) (ls1 : Array Slot), 96 - yh.toInt ≤ (k : Int) → 0 ≤ yh.toInt → yh.toInt ≤ 96 → (g : Int) + (96 - yh.toInt) ≤ (G : Int) + 96 → tG D (gF cI cL cC gC gE g gW gA) t H1 → tF t wrC s.heap H1 locs1 → lv_has ls1 7 [(6, .int yh), (5, .ref r_740), (4, .ref r_730), (0, .ref a0), (1, .int a1), (2, .int a2), (3, .int a3)] → WW H1 locs1 (F0 m 71 ls1 []) := by
            intro k
            induction k with
            | zero =>
              intro yh g H locs ls hk v0 v1 v2 hG hS hl
              refine (hWW _ _ _).mpr ?_
              refine lv_iload hx hb dX9_changedReading_71 (lv_at hl 0 rfl) ?_
              refine lv_iload_n hx hb dX9_changedReading_73 rfl (lv_at hl 6 rfl) ?_
              refine lv_icmp_gt (tgt := 94) hx hb dX9_changedReading_74 (by decide) (fun c_1173 => ?_) (fun c_1173 => ?_)
              · skip
                have c_1173 : a3.toInt < yh.toInt := q_lt c_1173
                exact (hWW _ _ _).mp (kx yh g H locs ls (by omega) (by omega) (by omega) hG hS (lv_sub hl [0, 1, 2, 3, 4, 5, 6] rfl))
              · skip
                have c_1173 : yh.toInt ≤ a3.toInt := q_nlt c_1173
                refine lv_aload_n hx hb dX9_changedReading_77 rfl (lv_at hl 3 rfl) ?_
                obtain ⟨r_1174, r_1176, r_1178, r_1180, v_1182, v_1183, r_1184, r_1186, r_1188, r_1190, r_1192, r_1194, r_1196, v_1198, r_1200, r_1202, r_1204, r_1206, at_1208, h_1175, h_1177, h_1179, h_1181, h_1185, h_1187, h_1189, h_1191, h_1193, h_1195, h_1197, h_1199, h_1201, h_1203, h_1205, h_1207⟩ := gF_o1 hG k_a0
                refine va_get (D := D) (ci := 8) (v := .ref r_1192) (C := RX9) (T := TX9) (N := 18) hx hb hts in9 hown hK (va_one at_1208) 0 rfl rfl 10 (by decide) (hts (.fieldLink RX9 57 "RiverModel" "trial" "LRiverModel$Course;") (List.mem_of_getElem? (i := 3) rfl)) (fun _ h9 => h9) rfl dX9_changedReading_78 ?_
                refine lv_pc (pc2 := 81) rfl ?_
                refine lv_aload hx hb dX9_changedReading_81 (lv_at hl 2 rfl) ?_
                refine lv_aload hx hb dX9_changedReading_83 (lv_at hl 1 rfl) ?_
                obtain ⟨r_1209, r_1211, r_1213, r_1215, v_1217, v_1218, v_1219, v_1220, at_1222, h_1210, h_1212, h_1214, h_1216, h_1221⟩ := gF_o5 hG h_1193
                refine ty_callv ((W.runV (As := [.ref r_730, .ref r_740]) (rest := []) ⟨hx, hb, hml, hown, hts⟩ (s_X0_goHourBy l D t cI cL cC gC gE g gW gA r_1192 r_730 r_740 (by omega) h_1193 h_731 h_741) (cwV 2 hts gu_X9_changedReading_X0_goHourBy_151 rfl rfl rfl (by decide +kernel) ⟨Nat.le_of_ble_eq_true rfl, Nat.le_of_ble_eq_true rfl⟩) (tP_V hG hE at_1222 rfl) rfl rfl hl.1 rfl (lv_room (Nat.le_of_ble_eq_true rfl)) dX9_changedReading_85 ⟨Nat.le_of_ble_eq_true rfl, Nat.le_of_ble_eq_true rfl⟩)) hS (fun _ h => h) (fun H locs hp_1224 hG hS o_1225 => ?_)
                have at_1208 := va_at.keptC at_1208 o_1225 k_a0 rfl
                obtain ⟨x_1226, e_1227⟩ : ∃ y : Int32, y = yh + Int32.ofInt 1 := ⟨_, rfl⟩
                have i_x_1226 : x_1226.toInt = yh.toInt + 1 := by rw [e_1227, show Int32.ofInt 1 = 1 by decide]; exact (q_add (by rw [show (1 : Int32).toInt = 1 by decide]; omega) (by rw [show (1 : Int32).toInt = 1 by decide]; omega)).trans (by rw [show (1 : Int32).toInt = 1 by decide])
                refine lv_iinc (v := x_1226) (lv' := [(6, .int x_1226), (5, .ref r_740), (4, .ref r_730), (0, .ref a0), (1, .int a1), (2, .int a2), (3, .int a3)]) hx hb dX9_changedReading_88 hl (k := 0) rfl e_1227.symm (by decide) rfl (fun ls hl => ?_)
                refine lv_goto (tgt := 71) hx hb dX9_changedReading_91 (by decide) ?_
                exfalso; omega
            | succ k ih =>
              intro yh g H locs ls hk v0 v1 v2 hG hS hl
              refine (hWW _ _ _).mpr ?_
              refine lv_iload hx hb dX9_changedReading_71 (lv_at hl 0 rfl) ?_
              refine lv_iload_n hx hb dX9_changedReading_73 rfl (lv_at hl 6 rfl) ?_
              refine lv_icmp_gt (tgt := 94) hx hb dX9_changedReading_74 (by decide) (fun c_1228 => ?_) (fun c_1228 => ?_)
              · skip
                have c_1228 : a3.toInt < yh.toInt := q_lt c_1228
                exact (hWW _ _ _).mp (kx yh g H locs ls (by omega) (by omega) (by omega) hG hS (lv_sub hl [0, 1, 2, 3, 4, 5, 6] rfl))
              · skip
                have c_1228 : yh.toInt ≤ a3.toInt := q_nlt c_1228
                refine lv_pc (pc2 := 77) rfl ?_
                refine lv_aload_n hx hb dX9_changedReading_77 rfl (lv_at hl 3 rfl) ?_
                obtain ⟨r_1229, r_1231, r_1233, r_1235, v_1237, v_1238, r_1239, r_1241, r_1243, r_1245, r_1247, r_1249, r_1251, v_1253, r_1255, r_1257, r_1259, r_1261, at_1263, h_1230, h_1232, h_1234, h_1236, h_1240, h_1242, h_1244, h_1246, h_1248, h_1250, h_1252, h_1254, h_1256, h_1258, h_1260, h_1262⟩ := gF_o1 hG k_a0
                refine va_get (D := D) (ci := 8) (v := .ref r_1247) (C := RX9) (T := TX9) (N := 18) hx hb hts in9 hown hK (va_one at_1263) 0 rfl rfl 10 (by decide) (hts (.fieldLink RX9 57 "RiverModel" "trial" "LRiverModel$Course;") (List.mem_of_getElem? (i := 3) rfl)) (fun _ h9 => h9) rfl dX9_changedReading_78 ?_
                refine lv_aload hx hb dX9_changedReading_81 (lv_at hl 2 rfl) ?_
                refine lv_aload hx hb dX9_changedReading_83 (lv_at hl 1 rfl) ?_
                obtain ⟨r_1264, r_1266, r_1268, r_1270, v_1272, v_1273, v_1274, v_1275, at_1277, h_1265, h_1267, h_1269, h_1271, h_1276⟩ := gF_o5 hG h_1248
                refine ty_callv ((W.runV (As := [.ref r_730, .ref r_740]) (rest := []) ⟨hx, hb, hml, hown, hts⟩ (s_X0_goHourBy l D t cI cL cC gC gE g gW gA r_1247 r_730 r_740 (by omega) h_1248 h_731 h_741) (cwV 2 hts gu_X9_changedReading_X0_goHourBy_151 rfl rfl rfl (by decide +kernel) ⟨Nat.le_of_ble_eq_true rfl, Nat.le_of_ble_eq_true rfl⟩) (tP_V hG hE at_1277 rfl) rfl rfl hl.1 rfl (lv_room (Nat.le_of_ble_eq_true rfl)) dX9_changedReading_85 ⟨Nat.le_of_ble_eq_true rfl, Nat.le_of_ble_eq_true rfl⟩)) hS (fun _ h => h) (fun H locs hp_1279 hG hS o_1280 => ?_)
                have at_1263 := va_at.keptC at_1263 o_1280 k_a0 rfl
                obtain ⟨x_1281, e_1282⟩ : ∃ y : Int32, y = yh + Int32.ofInt 1 := ⟨_, rfl⟩
                have i_x_1281 : x_1281.toInt = yh.toInt + 1 := by rw [e_1282, show Int32.ofInt 1 = 1 by decide]; exact (q_add (by rw [show (1 : Int32).toInt = 1 by decide]; omega) (by rw [show (1 : Int32).toInt = 1 by decide]; omega)).trans (by rw [show (1 : Int32).toInt = 1 by decide])
                refine lv_iinc (v := x_1281) (lv' := [(6, .int x_1281), (5, .ref r_740), (4, .ref r_730), (0, .ref a0), (1, .int a1), (2, .int a2), (3, .int a3)]) hx hb dX9_changedReading_88 hl (k := 0) rfl e_1282.symm (by decide) rfl (fun ls hl => ?_)
                refine lv_goto (tgt := 71) hx hb dX9_changedReading_91 (by decide) ?_
                exact (hWW _ _ _).mp (ih x_1281 (g + 1) H locs ls (by omega) (by omega) (by omega) (by omega) hG hS (lv_sub hl [0, 1, 2, 3, 4, 5, 6] rfl))
          have hz_yh : (0 : Int32).toInt = 0 := by decide
          exact loop (96 - 0 : Int).toNat 0 G H locs ls (by omega) (by omega) (by omega) (by omega) hG hS (lv_sub hl [0, 1, 2, 3, 4, 5, 6] rfl)
        · skip
          have c_1127 : 2 ≤ a1.toInt := q_nlt c_1127
          refine lv_aload_n hx hb dX9_changedReading_57 rfl (lv_at hl 2 rfl) ?_
          refine lv_pc (pc2 := 58) rfl ?_
          refine va_get (D := D) (ci := 8) (v := .ref r_746) (C := RX9) (T := TX9) (N := 18) hx hb hts in9 hown hK (va_one at_762) 0 rfl rfl 10 (by decide) (hts (.fieldLink RX9 57 "RiverModel" "trial" "LRiverModel$Course;") (List.mem_of_getElem? (i := 3) rfl)) (fun _ h9 => h9) rfl dX9_changedReading_58 ?_
          refine lv_aload_n hx hb dX9_changedReading_61 rfl (lv_at hl 2 rfl) ?_
          refine va_get (D := D) (ci := 8) (v := .ref r_742) (C := RX9) (T := TX9) (N := 18) hx hb hts in9 hown hK (va_one at_762) 0 rfl rfl 8 (by decide) (hts (.fieldLink RX9 46 "RiverModel" "startsB" "[I") (List.mem_of_getElem? (i := 16) rfl)) (fun _ h9 => h9) rfl dX9_changedReading_62 ?_
          obtain ⟨r_1283, r_1285, r_1287, r_1289, v_1291, v_1292, v_1293, v_1294, at_1296, h_1284, h_1286, h_1288, h_1290, h_1295⟩ := gF_o5 hG h_747
          refine ty_callv ((W.runV (As := [.ref r_742]) (rest := []) ⟨hx, hb, hml, hown, hts⟩ (s_X0_startFrom l D t cI cL cC gC gE G gW gA r_746 r_742 h_747 h_743) (cwV 1 hts gu_X9_changedReading_X0_startFrom_380 rfl rfl rfl (by decide +kernel) ⟨Nat.le_of_ble_eq_true rfl, Nat.le_of_ble_eq_true rfl⟩) (tP_V hG hE at_1296 rfl) rfl rfl hl.1 rfl (lv_room (Nat.le_of_ble_eq_true rfl)) dX9_changedReading_65 ⟨Nat.le_of_ble_eq_true rfl, Nat.le_of_ble_eq_true rfl⟩)) hS (fun _ h => h) (fun H locs hp_1298 hG hS o_1299 => ?_)
          have at_762 := va_at.keptC at_762 o_1299 k_a0 rfl
          refine lv_iconst (v := 0) hx hb dX9_changedReading_68 (by decide) ?_
          refine lv_istore (lv' := [(6, .int 0), (5, .ref r_740), (4, .ref r_730), (0, .ref a0), (1, .int a1), (2, .int a2), (3, .int a3)]) hx hb dX9_changedReading_69 hl (by decide) rfl (fun ls hl => ?_)
          refine lv_pc (pc2 := 71) rfl ?_
          refine lp_gen (fun WW hWW => ?_)
          have kx : ∀ (yh : Int32) (g : Nat) (H1 : Heap) (locs1 : List Loc) (ls1 : Array Slot), 0 ≤ yh.toInt → yh.toInt ≤ 96 → (g : Int) + (96 - yh.toInt) ≤ (G : Int) + 96 → tG D (gF cI cL cC gC gE g gW gA) t H1 → tF t wrC s.heap H1 locs1 → lv_has ls1 7 [(6, .int yh), (5, .ref r_740), (4, .ref r_730), (0, .ref a0), (1, .int a1), (2, .int a2), (3, .int a3)] → WW H1 locs1 (F0 m 94 ls1 []) := by
            intro yh g H locs ls v0 v1 v2 hG hS hl
            refine (hWW _ _ _).mpr ?_
            refine lv_aload_n hx hb dX9_changedReading_94 rfl (lv_at hl 3 rfl) ?_
            obtain ⟨r_1300, r_1302, r_1304, r_1306, v_1308, v_1309, r_1310, r_1312, r_1314, r_1316, r_1318, r_1320, r_1322, v_1324, r_1326, r_1328, r_1330, r_1332, at_1334, h_1301, h_1303, h_1305, h_1307, h_1311, h_1313, h_1315, h_1317, h_1319, h_1321, h_1323, h_1325, h_1327, h_1329, h_1331, h_1333⟩ := gF_o1 hG k_a0
            refine va_get (D := D) (ci := 8) (v := .ref r_1326) (C := RX9) (T := TX9) (N := 18) hx hb hts in9 hown hK (va_one at_1334) 0 rfl rfl 14 (by decide) (hts (.fieldLink RX9 74 "RiverModel" "gauges" "LRiverModel$Gauges;") (List.mem_of_getElem? (i := 8) rfl)) (fun _ h9 => h9) rfl dX9_changedReading_95 ?_
            refine lv_pc (pc2 := 98) rfl ?_
            refine lv_aload_n hx hb dX9_changedReading_98 rfl (lv_at hl 3 rfl) ?_
            refine va_get (D := D) (ci := 8) (v := .ref r_1318) (C := RX9) (T := TX9) (N := 18) hx hb hts in9 hown hK (va_one at_1334) 0 rfl rfl 10 (by decide) (hts (.fieldLink RX9 57 "RiverModel" "trial" "LRiverModel$Course;") (List.mem_of_getElem? (i := 3) rfl)) (fun _ h9 => h9) rfl dX9_changedReading_99 ?_
            refine lv_iload_n hx hb dX9_changedReading_102 rfl (lv_at hl 5 rfl) ?_
            obtain ⟨r_1335, r_1337, r_1339, at_1341, h_1336, h_1338, h_1340⟩ := gF_o6 hG h_1327
            refine ty_calll ((W.runV (As := [.ref r_1318, .int a2]) (rest := []) ⟨hx, hb, hml, hown, hts⟩ (s_X1_reading l D t cI cL cC gC gE g gW gA r_1326 r_1318 a2 h_1327 h_1319) (cwV 2 hts gu_X9_changedReading_X1_reading_215 rfl rfl rfl (by decide +kernel) ⟨Nat.le_of_ble_eq_true rfl, Nat.le_of_ble_eq_true rfl⟩) (tP_V hG hE at_1341 rfl) rfl rfl hl.1 rfl (lv_room (Nat.le_of_ble_eq_true rfl)) dX9_changedReading_103 ⟨Nat.le_of_ble_eq_true rfl, Nat.le_of_ble_eq_true rfl⟩)) hS (fun k h => by simp [wr0] at h) (fun z_1342 H locs hp_1343 hG hS o_1344 => ?_)
            have at_1334 := va_at.keptC at_1334 o_1344 k_a0 rfl
            have at_1341 := va_at.keptC at_1341 o_1344 h_1327 rfl
            exact ty_lret hx hb hr hlk (hG.weak (fun _ _ => gF_mono (by omega))) hS True.intro dX9_changedReading_106
          have loop : ∀ (k : Nat) (yh : Int32) (g : Nat) (H1 : Heap) (locs1 : List Loc) (ls1 : Array Slot), 96 - yh.toInt ≤ (k : Int) → 0 ≤ yh.toInt → yh.toInt ≤ 96 → (g : Int) + (96 - yh.toInt) ≤ (G : Int) + 96 → tG D (gF cI cL cC gC gE g gW gA) t H1 → tF t wrC s.heap H1 locs1 → lv_has ls1 7 [(6, .int yh), (5, .ref r_740), (4, .ref r_730), (0, .ref a0), (1, .int a1), (2, .int a2), (3, .int a3)] → WW H1 locs1 (F0 m 71 ls1 []) := by
            intro k
            induction k with
            | zero =>
              intro yh g H locs ls hk v0 v1 v2 hG hS hl
              refine (hWW _ _ _).mpr ?_
              refine lv_iload hx hb dX9_changedReading_71 (lv_at hl 0 rfl) ?_
              refine lv_iload_n hx hb dX9_changedReading_73 rfl (lv_at hl 6 rfl) ?_
              refine lv_icmp_gt (tgt := 94) hx hb dX9_changedReading_74 (by decide) (fun c_1345 => ?_) (fun c_1345 => ?_)
              · skip
                have c_1345 : a3.toInt < yh.toInt := q_lt c_1345
                exact (hWW _ _ _).mp (kx yh g H locs ls (by omega) (by omega) (by omega) hG hS (lv_sub hl [0, 1, 2, 3, 4, 5, 6] rfl))
              · skip
                have c_1345 : yh.toInt ≤ a3.toInt := q_nlt c_1345
                refine lv_pc (pc2 := 77) rfl ?_
                refine lv_aload_n hx hb dX9_changedReading_77 rfl (lv_at hl 3 rfl) ?_
                obtain ⟨r_1346, r_1348, r_1350, r_1352, v_1354, v_1355, r_1356, r_1358, r_1360, r_1362, r_1364, r_1366, r_1368, v_1370, r_1372, r_1374, r_1376, r_1378, at_1380, h_1347, h_1349, h_1351, h_1353, h_1357, h_1359, h_1361, h_1363, h_1365, h_1367, h_1369, h_1371, h_1373, h_1375, h_1377, h_1379⟩ := gF_o1 hG k_a0
                refine va_get (D := D) (ci := 8) (v := .ref r_1364) (C := RX9) (T := TX9) (N := 18) hx hb hts in9 hown hK (va_one at_1380) 0 rfl rfl 10 (by decide) (hts (.fieldLink RX9 57 "RiverModel" "trial" "LRiverModel$Course;") (List.mem_of_getElem? (i := 3) rfl)) (fun _ h9 => h9) rfl dX9_changedReading_78 ?_
                refine lv_aload hx hb dX9_changedReading_81 (lv_at hl 2 rfl) ?_
                refine lv_aload hx hb dX9_changedReading_83 (lv_at hl 1 rfl) ?_
                obtain ⟨r_1381, r_1383, r_1385, r_1387, v_1389, v_1390, v_1391, v_1392, at_1394, h_1382, h_1384, h_1386, h_1388, h_1393⟩ := gF_o5 hG h_1365
                refine ty_callv ((W.runV (As := [.ref r_730, .ref r_740]) (rest := []) ⟨hx, hb, hml, hown, hts⟩ (s_X0_goHourBy l D t cI cL cC gC gE g gW gA r_1364 r_730 r_740 (by omega) h_1365 h_731 h_741) (cwV 2 hts gu_X9_changedReading_X0_goHourBy_151 rfl rfl rfl (by decide +kernel) ⟨Nat.le_of_ble_eq_true rfl, Nat.le_of_ble_eq_true rfl⟩) (tP_V hG hE at_1394 rfl) rfl rfl hl.1 rfl (lv_room (Nat.le_of_ble_eq_true rfl)) dX9_changedReading_85 ⟨Nat.le_of_ble_eq_true rfl, Nat.le_of_ble_eq_true rfl⟩)) hS (fun _ h => h) (fun H locs hp_1396 hG hS o_1397 => ?_)
                have at_1380 := va_at.keptC at_1380 o_1397 k_a0 rfl
                obtain ⟨x_1398, e_1399⟩ : ∃ y : Int32, y = yh + Int32.ofInt 1 := ⟨_, rfl⟩
                have i_x_1398 : x_1398.toInt = yh.toInt + 1 := by rw [e_1399, show Int32.ofInt 1 = 1 by decide]; exact (q_add (by rw [show (1 : Int32).toInt = 1 by decide]; omega) (by rw [show (1 : Int32).toInt = 1 by decide]; omega)).trans (by rw [show (1 : Int32).toInt = 1 by decide])
                refine lv_iinc (v := x_1398) (lv' := [(6, .int x_1398), (5, .ref r_740), (4, .ref r_730), (0, .ref a0), (1, .int a1), (2, .int a2), (3, .int a3)]) hx hb dX9_changedReading_88 hl (k := 0) rfl e_1399.symm (by decide) rfl (fun ls hl => ?_)
                refine lv_goto (tgt := 71) hx hb dX9_changedReading_91 (by decide) ?_
                exfalso; omega
            | succ k ih =>
              intro yh g H locs ls hk v0 v1 v2 hG hS hl
              refine (hWW _ _ _).mpr ?_
              refine lv_iload hx hb dX9_changedReading_71 (lv_at hl 0 rfl) ?_
              refine lv_pc (pc2 := 73) rfl ?_
              refine lv_iload_n hx hb dX9_changedReading_73 rfl (lv_at hl 6 rfl) ?_
              refine lv_icmp_gt (tgt := 94) hx hb dX9_changedReading_74 (by decide) (fun c_1400 => ?_) (fun c_1400 => ?_)
              · skip
                have c_1400 : a3.toInt < yh.toInt := q_lt c_1400
                exact (hWW _ _ _).mp (kx yh g H locs ls (by omega) (by omega) (by omega) hG hS (lv_sub hl [0, 1, 2, 3, 4, 5, 6] rfl))
              · skip
                have c_1400 : yh.toInt ≤ a3.toInt := q_nlt c_1400
                refine lv_aload_n hx hb dX9_changedReading_77 rfl (lv_at hl 3 rfl) ?_
                obtain ⟨r_1401, r_1403, r_1405, r_1407, v_1409, v_1410, r_1411, r_1413, r_1415, r_1417, r_1419, r_1421, r_1423, v_1425, r_1427, r_1429, r_1431, r_1433, at_1435, h_1402, h_1404, h_1406, h_1408, h_1412, h_1414, h_1416, h_1418, h_1420, h_1422, h_1424, h_1426, h_1428, h_1430, h_1432, h_1434⟩ := gF_o1 hG k_a0
                refine va_get (D := D) (ci := 8) (v := .ref r_1419) (C := RX9) (T := TX9) (N := 18) hx hb hts in9 hown hK (va_one at_1435) 0 rfl rfl 10 (by decide) (hts (.fieldLink RX9 57 "RiverModel" "trial" "LRiverModel$Course;") (List.mem_of_getElem? (i := 3) rfl)) (fun _ h9 => h9) rfl dX9_changedReading_78 ?_
                refine lv_aload hx hb dX9_changedReading_81 (lv_at hl 2 rfl) ?_
                refine lv_aload hx hb dX9_changedReading_83 (lv_at hl 1 rfl) ?_
                obtain ⟨r_1436, r_1438, r_1440, r_1442, v_1444, v_1445, v_1446, v_1447, at_1449, h_1437, h_1439, h_1441, h_1443, h_1448⟩ := gF_o5 hG h_1420
                refine ty_callv ((W.runV (As := [.ref r_730, .ref r_740]) (rest := []) ⟨hx, hb, hml, hown, hts⟩ (s_X0_goHourBy l D t cI cL cC gC gE g gW gA r_1419 r_730 r_740 (by omega) h_1420 h_731 h_741) (cwV 2 hts gu_X9_changedReading_X0_goHourBy_151 rfl rfl rfl (by decide +kernel) ⟨Nat.le_of_ble_eq_true rfl, Nat.le_of_ble_eq_true rfl⟩) (tP_V hG hE at_1449 rfl) rfl rfl hl.1 rfl (lv_room (Nat.le_of_ble_eq_true rfl)) dX9_changedReading_85 ⟨Nat.le_of_ble_eq_true rfl, Nat.le_of_ble_eq_true rfl⟩)) hS (fun _ h => h) (fun H locs hp_1451 hG hS o_1452 => ?_)
                have at_1435 := va_at.keptC at_1435 o_1452 k_a0 rfl
                obtain ⟨x_1453, e_1454⟩ : ∃ y : Int32, y = yh + Int32.ofInt 1 := ⟨_, rfl⟩
                have i_x_1453 : x_1453.toInt = yh.toInt + 1 := by rw [e_1454, show Int32.ofInt 1 = 1 by decide]; exact (q_add (by rw [show (1 : Int32).toInt = 1 by decide]; omega) (by rw [show (1 : Int32).toInt = 1 by decide]; omega)).trans (by rw [show (1 : Int32).toInt = 1 by decide])
                refine lv_iinc (v := x_1453) (lv' := [(6, .int x_1453), (5, .ref r_740), (4, .ref r_730), (0, .ref a0), (1, .int a1), (2, .int a2), (3, .int a3)]) hx hb dX9_changedReading_88 hl (k := 0) rfl e_1454.symm (by decide) rfl (fun ls hl => ?_)
                refine lv_pc (pc2 := 91) rfl ?_
                refine lv_goto (tgt := 71) hx hb dX9_changedReading_91 (by decide) ?_
                exact (hWW _ _ _).mp (ih x_1453 (g + 1) H locs ls (by omega) (by omega) (by omega) (by omega) hG hS (lv_sub hl [0, 1, 2, 3, 4, 5, 6] rfl))
          have hz_yh : (0 : Int32).toInt = 0 := by decide
          exact loop (96 - 0 : Int).toNat 0 G H locs ls (by omega) (by omega) (by omega) (by omega) hG hS (lv_sub hl [0, 1, 2, 3, 4, 5, 6] rfl)
    · skip
      have c_763 : v_737.toInt ≠ 0 := q_ne c_763
      refine lv_aload_n hx hb dX9_changedReading_12 rfl (lv_at hl 0 rfl) ?_
      refine va_get (D := D) (ci := 8) (v := .ref r_734) (C := RX9) (T := TX9) (N := 18) hx hb hts in9 hown hK (va_one at_762) 0 rfl rfl 3 (by decide) (hts (.fieldLink RX9 26 "RiverModel" "other" "LRiverModel$Model;") (List.mem_of_getElem? (i := 22) rfl)) (fun _ h9 => h9) rfl dX9_changedReading_13 ?_
      refine lv_goto (tgt := 23) hx hb dX9_changedReading_16 (by decide) ?_
      refine lv_astore (lv' := [(4, .ref r_734), (0, .ref a0), (1, .int a1), (2, .int a2), (3, .int a3)]) hx hb dX9_changedReading_23 hl (by decide) rfl (fun ls hl => ?_)
      refine lv_iload_n hx hb dX9_changedReading_25 rfl (lv_at hl 2 rfl) ?_
      refine lv_iconst (v := 1) hx hb dX9_changedReading_26 (by decide) ?_
      refine lv_icmp_lt (tgt := 37) hx hb dX9_changedReading_27 (by decide) (fun c_1455 => ?_) (fun c_1455 => ?_)
      · skip
        have c_1455 : a1.toInt < 1 := q_lt c_1455
        refine lv_pc (pc2 := 37) rfl ?_
        refine lv_aload_n hx hb dX9_changedReading_37 rfl (lv_at hl 1 rfl) ?_
        refine va_get (D := D) (ci := 8) (v := .ref r_738) (C := RX9) (T := TX9) (N := 18) hx hb hts in9 hown hK (va_one at_762) 0 rfl rfl 6 (by decide) (hts (.fieldLink RX9 39 "RiverModel" "skyA" "LRiverModel$Sky;") (List.mem_of_getElem? (i := 2) rfl)) (fun _ h9 => h9) rfl dX9_changedReading_38 ?_
        refine lv_astore (lv' := [(5, .ref r_738), (4, .ref r_734), (0, .ref a0), (1, .int a1), (2, .int a2), (3, .int a3)]) hx hb dX9_changedReading_41 hl (by decide) rfl (fun ls hl => ?_)
        refine lv_aload_n hx hb dX9_changedReading_43 rfl (lv_at hl 2 rfl) ?_
        refine va_get (D := D) (ci := 8) (v := .ref r_746) (C := RX9) (T := TX9) (N := 18) hx hb hts in9 hown hK (va_one at_762) 0 rfl rfl 10 (by decide) (hts (.fieldLink RX9 57 "RiverModel" "trial" "LRiverModel$Course;") (List.mem_of_getElem? (i := 3) rfl)) (fun _ h9 => h9) rfl dX9_changedReading_44 ?_
        refine lv_aload hx hb dX9_changedReading_47 (lv_at hl 1 rfl) ?_
        obtain ⟨r_1456, r_1458, r_1460, r_1462, v_1464, v_1465, v_1466, v_1467, at_1469, h_1457, h_1459, h_1461, h_1463, h_1468⟩ := gF_o5 hG h_747
        refine ty_callv ((W.runV (As := [.ref r_734]) (rest := []) ⟨hx, hb, hml, hown, hts⟩ (s_X0_begin l D t cI cL cC gC gE G gW gA r_746 r_734 h_747 h_735) (cwV 1 hts gu_X9_changedReading_X0_begin_147 rfl rfl rfl (by decide +kernel) ⟨Nat.le_of_ble_eq_true rfl, Nat.le_of_ble_eq_true rfl⟩) (tP_V hG hE at_1469 rfl) rfl rfl hl.1 rfl (lv_room (Nat.le_of_ble_eq_true rfl)) dX9_changedReading_49 ⟨Nat.le_of_ble_eq_true rfl, Nat.le_of_ble_eq_true rfl⟩)) hS (fun _ h => h) (fun H locs hp_1471 hG hS o_1472 => ?_)
        have at_762 := va_at.keptC at_762 o_1472 k_a0 rfl
        refine lv_iload_n hx hb dX9_changedReading_52 rfl (lv_at hl 3 rfl) ?_
        refine lv_pc (pc2 := 53) rfl ?_
        refine lv_iconst (v := 2) hx hb dX9_changedReading_53 (by decide) ?_
        refine lv_icmp_lt (tgt := 68) hx hb dX9_changedReading_54 (by decide) (fun c_1473 => ?_) (fun c_1473 => ?_)
        · skip
          have c_1473 : a1.toInt < 2 := q_lt c_1473
          refine lv_iconst (v := 0) hx hb dX9_changedReading_68 (by decide) ?_
          refine lv_istore (lv' := [(6, .int 0), (5, .ref r_738), (4, .ref r_734), (0, .ref a0), (1, .int a1), (2, .int a2), (3, .int a3)]) hx hb dX9_changedReading_69 hl (by decide) rfl (fun ls hl => ?_)
          refine lv_pc (pc2 := 71) rfl ?_
          refine lp_gen (fun WW hWW => ?_)
          have kx : ∀ (yh : Int32) (g : Nat) (H1 : Heap) (locs1 : List Loc) (ls1 : Array Slot), 0 ≤ yh.toInt → yh.toInt ≤ 96 → (g : Int) + (96 - yh.toInt) ≤ (G : Int) + 96 → tG D (gF cI cL cC gC gE g gW gA) t H1 → tF t wrC s.heap H1 locs1 → lv_has ls1 7 [(6, .int yh), (5, .ref r_738), (4, .ref r_734), (0, .ref a0), (1, .int a1), (2, .int a2), (3, .int a3)] → WW H1 locs1 (F0 m 94 ls1 []) := by
            intro yh g H locs ls v0 v1 v2 hG hS hl
            refine (hWW _ _ _).mpr ?_
            refine lv_aload_n hx hb dX9_changedReading_94 rfl (lv_at hl 3 rfl) ?_
            obtain ⟨r_1474, r_1476, r_1478, r_1480, v_1482, v_1483, r_1484, r_1486, r_1488, r_1490, r_1492, r_1494, r_1496, v_1498, r_1500, r_1502, r_1504, r_1506, at_1508, h_1475, h_1477, h_1479, h_1481, h_1485, h_1487, h_1489, h_1491, h_1493, h_1495, h_1497, h_1499, h_1501, h_1503, h_1505, h_1507⟩ := gF_o1 hG k_a0
            refine va_get (D := D) (ci := 8) (v := .ref r_1500) (C := RX9) (T := TX9) (N := 18) hx hb hts in9 hown hK (va_one at_1508) 0 rfl rfl 14 (by decide) (hts (.fieldLink RX9 74 "RiverModel" "gauges" "LRiverModel$Gauges;") (List.mem_of_getElem? (i := 8) rfl)) (fun _ h9 => h9) rfl dX9_changedReading_95 ?_
            refine lv_aload_n hx hb dX9_changedReading_98 rfl (lv_at hl 3 rfl) ?_
            refine va_get (D := D) (ci := 8) (v := .ref r_1492) (C := RX9) (T := TX9) (N := 18) hx hb hts in9 hown hK (va_one at_1508) 0 rfl rfl 10 (by decide) (hts (.fieldLink RX9 57 "RiverModel" "trial" "LRiverModel$Course;") (List.mem_of_getElem? (i := 3) rfl)) (fun _ h9 => h9) rfl dX9_changedReading_99 ?_
            refine lv_pc (pc2 := 102) rfl ?_
            refine lv_iload_n hx hb dX9_changedReading_102 rfl (lv_at hl 5 rfl) ?_
            obtain ⟨r_1509, r_1511, r_1513, at_1515, h_1510, h_1512, h_1514⟩ := gF_o6 hG h_1501
            refine ty_calll ((W.runV (As := [.ref r_1492, .int a2]) (rest := []) ⟨hx, hb, hml, hown, hts⟩ (s_X1_reading l D t cI cL cC gC gE g gW gA r_1500 r_1492 a2 h_1501 h_1493) (cwV 2 hts gu_X9_changedReading_X1_reading_215 rfl rfl rfl (by decide +kernel) ⟨Nat.le_of_ble_eq_true rfl, Nat.le_of_ble_eq_true rfl⟩) (tP_V hG hE at_1515 rfl) rfl rfl hl.1 rfl (lv_room (Nat.le_of_ble_eq_true rfl)) dX9_changedReading_103 ⟨Nat.le_of_ble_eq_true rfl, Nat.le_of_ble_eq_true rfl⟩)) hS (fun k h => by simp [wr0] at h) (fun z_1516 H locs hp_1517 hG hS o_1518 => ?_)
            have at_1508 := va_at.keptC at_1508 o_1518 k_a0 rfl
            have at_1515 := va_at.keptC at_1515 o_1518 h_1501 rfl
            exact ty_lret hx hb hr hlk (hG.weak (fun _ _ => gF_mono (by omega))) hS True.intro dX9_changedReading_106
          have loop : ∀ (k : Nat) (yh : Int32) (g : Nat) (H1 : Heap) (locs1 : List Loc) (ls1 : Array Slot), 96 - yh.toInt ≤ (k : Int) → 0 ≤ yh.toInt → yh.toInt ≤ 96 → (g : Int) + (96 - yh.toInt) ≤ (G : Int) + 96 → tG D (gF cI cL cC gC gE g gW gA) t H1 → tF t wrC s.heap H1 locs1 → lv_has ls1 7 [(6, .int yh), (5, .ref r_738), (4, .ref r_734), (0, .ref a0), (1, .int a1), (2, .int a2), (3, .int a3)] → WW H1 locs1 (F0 m 71 ls1 []) := by
            intro k
            induction k with
            | zero =>
              intro yh g H locs ls hk v0 v1 v2 hG hS hl
              refine (hWW _ _ _).mpr ?_
              refine lv_iload hx hb dX9_changedReading_71 (lv_at hl 0 rfl) ?_
              refine lv_iload_n hx hb dX9_changedReading_73 rfl (lv_at hl 6 rfl) ?_
              refine lv_icmp_gt (tgt := 94) hx hb dX9_changedReading_74 (by decide) (fun c_1519 => ?_) (fun c_1519 => ?_)
              · skip
                have c_1519 : a3.toInt < yh.toInt := q_lt c_1519
                exact (hWW _ _ _).mp (kx yh g H locs ls (by omega) (by omega) (by omega) hG hS (lv_sub hl [0, 1, 2, 3, 4, 5, 6] rfl))
              · skip
                have c_1519 : yh.toInt ≤ a3.toInt := q_nlt c_1519
                refine lv_aload_n hx hb dX9_changedReading_77 rfl (lv_at hl 3 rfl) ?_
                obtain ⟨r_1520, r_1522, r_1524, r_1526, v_1528, v_1529, r_1530, r_1532, r_1534, r_1536, r_1538, r_1540, r_1542, v_1544, r_1546, r_1548, r_1550, r_1552, at_1554, h_1521, h_1523, h_1525, h_1527, h_1531, h_1533, h_1535, h_1537, h_1539, h_1541, h_1543, h_1545, h_1547, h_1549, h_1551, h_1553⟩ := gF_o1 hG k_a0
                refine va_get (D := D) (ci := 8) (v := .ref r_1538) (C := RX9) (T := TX9) (N := 18) hx hb hts in9 hown hK (va_one at_1554) 0 rfl rfl 10 (by decide) (hts (.fieldLink RX9 57 "RiverModel" "trial" "LRiverModel$Course;") (List.mem_of_getElem? (i := 3) rfl)) (fun _ h9 => h9) rfl dX9_changedReading_78 ?_
                refine lv_pc (pc2 := 81) rfl ?_
                refine lv_aload hx hb dX9_changedReading_81 (lv_at hl 2 rfl) ?_
                refine lv_aload hx hb dX9_changedReading_83 (lv_at hl 1 rfl) ?_
                obtain ⟨r_1555, r_1557, r_1559, r_1561, v_1563, v_1564, v_1565, v_1566, at_1568, h_1556, h_1558, h_1560, h_1562, h_1567⟩ := gF_o5 hG h_1539
                refine ty_callv ((W.runV (As := [.ref r_734, .ref r_738]) (rest := []) ⟨hx, hb, hml, hown, hts⟩ (s_X0_goHourBy l D t cI cL cC gC gE g gW gA r_1538 r_734 r_738 (by omega) h_1539 h_735 h_739) (cwV 2 hts gu_X9_changedReading_X0_goHourBy_151 rfl rfl rfl (by decide +kernel) ⟨Nat.le_of_ble_eq_true rfl, Nat.le_of_ble_eq_true rfl⟩) (tP_V hG hE at_1568 rfl) rfl rfl hl.1 rfl (lv_room (Nat.le_of_ble_eq_true rfl)) dX9_changedReading_85 ⟨Nat.le_of_ble_eq_true rfl, Nat.le_of_ble_eq_true rfl⟩)) hS (fun _ h => h) (fun H locs hp_1570 hG hS o_1571 => ?_)
                have at_1554 := va_at.keptC at_1554 o_1571 k_a0 rfl
                obtain ⟨x_1572, e_1573⟩ : ∃ y : Int32, y = yh + Int32.ofInt 1 := ⟨_, rfl⟩
                have i_x_1572 : x_1572.toInt = yh.toInt + 1 := by rw [e_1573, show Int32.ofInt 1 = 1 by decide]; exact (q_add (by rw [show (1 : Int32).toInt = 1 by decide]; omega) (by rw [show (1 : Int32).toInt = 1 by decide]; omega)).trans (by rw [show (1 : Int32).toInt = 1 by decide])
                refine lv_iinc (v := x_1572) (lv' := [(6, .int x_1572), (5, .ref r_738), (4, .ref r_734), (0, .ref a0), (1, .int a1), (2, .int a2), (3, .int a3)]) hx hb dX9_changedReading_88 hl (k := 0) rfl e_1573.symm (by decide) rfl (fun ls hl => ?_)
                refine lv_goto (tgt := 71) hx hb dX9_changedReading_91 (by decide) ?_
                exfalso; omega
            | succ k ih =>
              intro yh g H locs ls hk v0 v1 v2 hG hS hl
              refine (hWW _ _ _).mpr ?_
              refine lv_iload hx hb dX9_changedReading_71 (lv_at hl 0 rfl) ?_
              refine lv_iload_n hx hb dX9_changedReading_73 rfl (lv_at hl 6 rfl) ?_
              refine lv_icmp_gt (tgt := 94) hx hb dX9_changedReading_74 (by decide) (fun c_1574 => ?_) (fun c_1574 => ?_)
              · skip
                have c_1574 : a3.toInt < yh.toInt := q_lt c_1574
                exact (hWW _ _ _).mp (kx yh g H locs ls (by omega) (by omega) (by omega) hG hS (lv_sub hl [0, 1, 2, 3, 4, 5, 6] rfl))
              · skip
                have c_1574 : yh.toInt ≤ a3.toInt := q_nlt c_1574
                refine lv_pc (pc2 := 77) rfl ?_
                refine lv_aload_n hx hb dX9_changedReading_77 rfl (lv_at hl 3 rfl) ?_
                obtain ⟨r_1575, r_1577, r_1579, r_1581, v_1583, v_1584, r_1585, r_1587, r_1589, r_1591, r_1593, r_1595, r_1597, v_1599, r_1601, r_1603, r_1605, r_1607, at_1609, h_1576, h_1578, h_1580, h_1582, h_1586, h_1588, h_1590, h_1592, h_1594, h_1596, h_1598, h_1600, h_1602, h_1604, h_1606, h_1608⟩ := gF_o1 hG k_a0
                refine va_get (D := D) (ci := 8) (v := .ref r_1593) (C := RX9) (T := TX9) (N := 18) hx hb hts in9 hown hK (va_one at_1609) 0 rfl rfl 10 (by decide) (hts (.fieldLink RX9 57 "RiverModel" "trial" "LRiverModel$Course;") (List.mem_of_getElem? (i := 3) rfl)) (fun _ h9 => h9) rfl dX9_changedReading_78 ?_
                refine lv_aload hx hb dX9_changedReading_81 (lv_at hl 2 rfl) ?_
                refine lv_aload hx hb dX9_changedReading_83 (lv_at hl 1 rfl) ?_
                obtain ⟨r_1610, r_1612, r_1614, r_1616, v_1618, v_1619, v_1620, v_1621, at_1623, h_1611, h_1613, h_1615, h_1617, h_1622⟩ := gF_o5 hG h_1594
                refine ty_callv ((W.runV (As := [.ref r_734, .ref r_738]) (rest := []) ⟨hx, hb, hml, hown, hts⟩ (s_X0_goHourBy l D t cI cL cC gC gE g gW gA r_1593 r_734 r_738 (by omega) h_1594 h_735 h_739) (cwV 2 hts gu_X9_changedReading_X0_goHourBy_151 rfl rfl rfl (by decide +kernel) ⟨Nat.le_of_ble_eq_true rfl, Nat.le_of_ble_eq_true rfl⟩) (tP_V hG hE at_1623 rfl) rfl rfl hl.1 rfl (lv_room (Nat.le_of_ble_eq_true rfl)) dX9_changedReading_85 ⟨Nat.le_of_ble_eq_true rfl, Nat.le_of_ble_eq_true rfl⟩)) hS (fun _ h => h) (fun H locs hp_1625 hG hS o_1626 => ?_)
                have at_1609 := va_at.keptC at_1609 o_1626 k_a0 rfl
                obtain ⟨x_1627, e_1628⟩ : ∃ y : Int32, y = yh + Int32.ofInt 1 := ⟨_, rfl⟩
                have i_x_1627 : x_1627.toInt = yh.toInt + 1 := by rw [e_1628, show Int32.ofInt 1 = 1 by decide]; exact (q_add (by rw [show (1 : Int32).toInt = 1 by decide]; omega) (by rw [show (1 : Int32).toInt = 1 by decide]; omega)).trans (by rw [show (1 : Int32).toInt = 1 by decide])
                refine lv_iinc (v := x_1627) (lv' := [(6, .int x_1627), (5, .ref r_738), (4, .ref r_734), (0, .ref a0), (1, .int a1), (2, .int a2), (3, .int a3)]) hx hb dX9_changedReading_88 hl (k := 0) rfl e_1628.symm (by decide) rfl (fun ls hl => ?_)
                refine lv_goto (tgt := 71) hx hb dX9_changedReading_91 (by decide) ?_
                exact (hWW _ _ _).mp (ih x_1627 (g + 1) H locs ls (by omega) (by omega) (by omega) (by omega) hG hS (lv_sub hl [0, 1, 2, 3, 4, 5, 6] rfl))
          have hz_yh : (0 : Int32).toInt = 0 := by decide
          exact loop (96 - 0 : Int).toNat 0 G H locs ls (by omega) (by omega) (by omega) (by omega) hG hS (lv_sub hl [0, 1, 2, 3, 4, 5, 6] rfl)
        · skip
          have c_1473 : 2 ≤ a1.toInt := q_nlt c_1473
          refine lv_aload_n hx hb dX9_changedReading_57 rfl (lv_at hl 2 rfl) ?_
          refine lv_pc (pc2 := 58) rfl ?_
          refine va_get (D := D) (ci := 8) (v := .ref r_746) (C := RX9) (T := TX9) (N := 18) hx hb hts in9 hown hK (va_one at_762) 0 rfl rfl 10 (by decide) (hts (.fieldLink RX9 57 "RiverModel" "trial" "LRiverModel$Course;") (List.mem_of_getElem? (i := 3) rfl)) (fun _ h9 => h9) rfl dX9_changedReading_58 ?_
          refine lv_aload_n hx hb dX9_changedReading_61 rfl (lv_at hl 2 rfl) ?_
          refine va_get (D := D) (ci := 8) (v := .ref r_742) (C := RX9) (T := TX9) (N := 18) hx hb hts in9 hown hK (va_one at_762) 0 rfl rfl 8 (by decide) (hts (.fieldLink RX9 46 "RiverModel" "startsB" "[I") (List.mem_of_getElem? (i := 16) rfl)) (fun _ h9 => h9) rfl dX9_changedReading_62 ?_
          obtain ⟨r_1629, r_1631, r_1633, r_1635, v_1637, v_1638, v_1639, v_1640, at_1642, h_1630, h_1632, h_1634, h_1636, h_1641⟩ := gF_o5 hG h_747
          refine ty_callv ((W.runV (As := [.ref r_742]) (rest := []) ⟨hx, hb, hml, hown, hts⟩ (s_X0_startFrom l D t cI cL cC gC gE G gW gA r_746 r_742 h_747 h_743) (cwV 1 hts gu_X9_changedReading_X0_startFrom_380 rfl rfl rfl (by decide +kernel) ⟨Nat.le_of_ble_eq_true rfl, Nat.le_of_ble_eq_true rfl⟩) (tP_V hG hE at_1642 rfl) rfl rfl hl.1 rfl (lv_room (Nat.le_of_ble_eq_true rfl)) dX9_changedReading_65 ⟨Nat.le_of_ble_eq_true rfl, Nat.le_of_ble_eq_true rfl⟩)) hS (fun _ h => h) (fun H locs hp_1644 hG hS o_1645 => ?_)
          have at_762 := va_at.keptC at_762 o_1645 k_a0 rfl
          refine lv_iconst (v := 0) hx hb dX9_changedReading_68 (by decide) ?_
          refine lv_istore (lv' := [(6, .int 0), (5, .ref r_738), (4, .ref r_734), (0, .ref a0), (1, .int a1), (2, .int a2), (3, .int a3)]) hx hb dX9_changedReading_69 hl (by decide) rfl (fun ls hl => ?_)
          refine lv_pc (pc2 := 71) rfl ?_
          refine lp_gen (fun WW hWW => ?_)
          have kx : ∀ (yh : Int32) (g : Nat) (H1 : Heap) (locs1 : List Loc) (ls1 : Array Slot), 0 ≤ yh.toInt → yh.toInt ≤ 96 → (g : Int) + (96 - yh.toInt) ≤ (G : Int) + 96 → tG D (gF cI cL cC gC gE g gW gA) t H1 → tF t wrC s.heap H1 locs1 → lv_has ls1 7 [(6, .int yh), (5, .ref r_738), (4, .ref r_734), (0, .ref a0), (1, .int a1), (2, .int a2), (3, .int a3)] → WW H1 locs1 (F0 m 94 ls1 []) := by
            intro yh g H locs ls v0 v1 v2 hG hS hl
            refine (hWW _ _ _).mpr ?_
            refine lv_aload_n hx hb dX9_changedReading_94 rfl (lv_at hl 3 rfl) ?_
            obtain ⟨r_1646, r_1648, r_1650, r_1652, v_1654, v_1655, r_1656, r_1658, r_1660, r_1662, r_1664, r_1666, r_1668, v_1670, r_1672, r_1674, r_1676, r_1678, at_1680, h_1647, h_1649, h_1651, h_1653, h_1657, h_1659, h_1661, h_1663, h_1665, h_1667, h_1669, h_1671, h_1673, h_1675, h_1677, h_1679⟩ := gF_o1 hG k_a0
            refine va_get (D := D) (ci := 8) (v := .ref r_1672) (C := RX9) (T := TX9) (N := 18) hx hb hts in9 hown hK (va_one at_1680) 0 rfl rfl 14 (by decide) (hts (.fieldLink RX9 74 "RiverModel" "gauges" "LRiverModel$Gauges;") (List.mem_of_getElem? (i := 8) rfl)) (fun _ h9 => h9) rfl dX9_changedReading_95 ?_
            refine lv_pc (pc2 := 98) rfl ?_
            refine lv_aload_n hx hb dX9_changedReading_98 rfl (lv_at hl 3 rfl) ?_
            refine va_get (D := D) (ci := 8) (v := .ref r_1664) (C := RX9) (T := TX9) (N := 18) hx hb hts in9 hown hK (va_one at_1680) 0 rfl rfl 10 (by decide) (hts (.fieldLink RX9 57 "RiverModel" "trial" "LRiverModel$Course;") (List.mem_of_getElem? (i := 3) rfl)) (fun _ h9 => h9) rfl dX9_changedReading_99 ?_
            refine lv_iload_n hx hb dX9_changedReading_102 rfl (lv_at hl 5 rfl) ?_
            obtain ⟨r_1681, r_1683, r_1685, at_1687, h_1682, h_1684, h_1686⟩ := gF_o6 hG h_1673
            refine ty_calll ((W.runV (As := [.ref r_1664, .int a2]) (rest := []) ⟨hx, hb, hml, hown, hts⟩ (s_X1_reading l D t cI cL cC gC gE g gW gA r_1672 r_1664 a2 h_1673 h_1665) (cwV 2 hts gu_X9_changedReading_X1_reading_215 rfl rfl rfl (by decide +kernel) ⟨Nat.le_of_ble_eq_true rfl, Nat.le_of_ble_eq_true rfl⟩) (tP_V hG hE at_1687 rfl) rfl rfl hl.1 rfl (lv_room (Nat.le_of_ble_eq_true rfl)) dX9_changedReading_103 ⟨Nat.le_of_ble_eq_true rfl, Nat.le_of_ble_eq_true rfl⟩)) hS (fun k h => by simp [wr0] at h) (fun z_1688 H locs hp_1689 hG hS o_1690 => ?_)
            have at_1680 := va_at.keptC at_1680 o_1690 k_a0 rfl
            have at_1687 := va_at.keptC at_1687 o_1690 h_1673 rfl
            exact ty_lret hx hb hr hlk (hG.weak (fun _ _ => gF_mono (by omega))) hS True.intro dX9_changedReading_106
          have loop : ∀ (k : Nat) (yh : Int32) (g : Nat) (H1 : Heap) (locs1 : List Loc) (ls1 : Array Slot), 96 - yh.toInt ≤ (k : Int) → 0 ≤ yh.toInt → yh.toInt ≤ 96 → (g : Int) + (96 - yh.toInt) ≤ (G : Int) + 96 → tG D (gF cI cL cC gC gE g gW gA) t H1 → tF t wrC s.heap H1 locs1 → lv_has ls1 7 [(6, .int yh), (5, .ref r_738), (4, .ref r_734), (0, .ref a0), (1, .int a1), (2, .int a2), (3, .int a3)] → WW H1 locs1 (F0 m 71 ls1 []) := by
            intro k
            induction k with
            | zero =>
              intro yh g H locs ls hk v0 v1 v2 hG hS hl
              refine (hWW _ _ _).mpr ?_
              refine lv_iload hx hb dX9_changedReading_71 (lv_at hl 0 rfl) ?_
              refine lv_iload_n hx hb dX9_changedReading_73 rfl (lv_at hl 6 rfl) ?_
              refine lv_icmp_gt (tgt := 94) hx hb dX9_changedReading_74 (by decide) (fun c_1691 => ?_) (fun c_1691 => ?_)
              · skip
                have c_1691 : a3.toInt < yh.toInt := q_lt c_1691
                exact (hWW _ _ _).mp (kx yh g H locs ls (by omega) (by omega) (by omega) hG hS (lv_sub hl [0, 1, 2, 3, 4, 5, 6] rfl))
              · skip
                have c_1691 : yh.toInt ≤ a3.toInt := q_nlt c_1691
                refine lv_pc (pc2 := 77) rfl ?_
                refine lv_aload_n hx hb dX9_changedReading_77 rfl (lv_at hl 3 rfl) ?_
                obtain ⟨r_1692, r_1694, r_1696, r_1698, v_1700, v_1701, r_1702, r_1704, r_1706, r_1708, r_1710, r_1712, r_1714, v_1716, r_1718, r_1720, r_1722, r_1724, at_1726, h_1693, h_1695, h_1697, h_1699, h_1703, h_1705, h_1707, h_1709, h_1711, h_1713, h_1715, h_1717, h_1719, h_1721, h_1723, h_1725⟩ := gF_o1 hG k_a0
                refine va_get (D := D) (ci := 8) (v := .ref r_1710) (C := RX9) (T := TX9) (N := 18) hx hb hts in9 hown hK (va_one at_1726) 0 rfl rfl 10 (by decide) (hts (.fieldLink RX9 57 "RiverModel" "trial" "LRiverModel$Course;") (List.mem_of_getElem? (i := 3) rfl)) (fun _ h9 => h9) rfl dX9_changedReading_78 ?_
                refine lv_aload hx hb dX9_changedReading_81 (lv_at hl 2 rfl) ?_
                refine lv_aload hx hb dX9_changedReading_83 (lv_at hl 1 rfl) ?_
                obtain ⟨r_1727, r_1729, r_1731, r_1733, v_1735, v_1736, v_1737, v_1738, at_1740, h_1728, h_1730, h_1732, h_1734, h_1739⟩ := gF_o5 hG h_1711
                refine ty_callv ((W.runV (As := [.ref r_734, .ref r_738]) (rest := []) ⟨hx, hb, hml, hown, hts⟩ (s_X0_goHourBy l D t cI cL cC gC gE g gW gA r_1710 r_734 r_738 (by omega) h_1711 h_735 h_739) (cwV 2 hts gu_X9_changedReading_X0_goHourBy_151 rfl rfl rfl (by decide +kernel) ⟨Nat.le_of_ble_eq_true rfl, Nat.le_of_ble_eq_true rfl⟩) (tP_V hG hE at_1740 rfl) rfl rfl hl.1 rfl (lv_room (Nat.le_of_ble_eq_true rfl)) dX9_changedReading_85 ⟨Nat.le_of_ble_eq_true rfl, Nat.le_of_ble_eq_true rfl⟩)) hS (fun _ h => h) (fun H locs hp_1742 hG hS o_1743 => ?_)
                have at_1726 := va_at.keptC at_1726 o_1743 k_a0 rfl
                obtain ⟨x_1744, e_1745⟩ : ∃ y : Int32, y = yh + Int32.ofInt 1 := ⟨_, rfl⟩
                have i_x_1744 : x_1744.toInt = yh.toInt + 1 := by rw [e_1745, show Int32.ofInt 1 = 1 by decide]; exact (q_add (by rw [show (1 : Int32).toInt = 1 by decide]; omega) (by rw [show (1 : Int32).toInt = 1 by decide]; omega)).trans (by rw [show (1 : Int32).toInt = 1 by decide])
                refine lv_iinc (v := x_1744) (lv' := [(6, .int x_1744), (5, .ref r_738), (4, .ref r_734), (0, .ref a0), (1, .int a1), (2, .int a2), (3, .int a3)]) hx hb dX9_changedReading_88 hl (k := 0) rfl e_1745.symm (by decide) rfl (fun ls hl => ?_)
                refine lv_goto (tgt := 71) hx hb dX9_changedReading_91 (by decide) ?_
                exfalso; omega
            | succ k ih =>
              intro yh g H locs ls hk v0 v1 v2 hG hS hl
              refine (hWW _ _ _).mpr ?_
              refine lv_iload hx hb dX9_changedReading_71 (lv_at hl 0 rfl) ?_
              refine lv_pc (pc2 := 73) rfl ?_
              refine lv_iload_n hx hb dX9_changedReading_73 rfl (lv_at hl 6 rfl) ?_
              refine lv_icmp_gt (tgt := 94) hx hb dX9_changedReading_74 (by decide) (fun c_1746 => ?_) (fun c_1746 => ?_)
              · skip
                have c_1746 : a3.toInt < yh.toInt := q_lt c_1746
                exact (hWW _ _ _).mp (kx yh g H locs ls (by omega) (by omega) (by omega) hG hS (lv_sub hl [0, 1, 2, 3, 4, 5, 6] rfl))
              · skip
                have c_1746 : yh.toInt ≤ a3.toInt := q_nlt c_1746
                refine lv_aload_n hx hb dX9_changedReading_77 rfl (lv_at hl 3 rfl) ?_
                obtain ⟨r_1747, r_1749, r_1751, r_1753, v_1755, v_1756, r_1757, r_1759, r_1761, r_1763, r_1765, r_1767, r_1769, v_1771, r_1773, r_1775, r_1777, r_1779, at_1781, h_1748, h_1750, h_1752, h_1754, h_1758, h_1760, h_1762, h_1764, h_1766, h_1768, h_1770, h_1772, h_1774, h_1776, h_1778, h_1780⟩ := gF_o1 hG k_a0
                refine va_get (D := D) (ci := 8) (v := .ref r_1765) (C := RX9) (T := TX9) (N := 18) hx hb hts in9 hown hK (va_one at_1781) 0 rfl rfl 10 (by decide) (hts (.fieldLink RX9 57 "RiverModel" "trial" "LRiverModel$Course;") (List.mem_of_getElem? (i := 3) rfl)) (fun _ h9 => h9) rfl dX9_changedReading_78 ?_
                refine lv_aload hx hb dX9_changedReading_81 (lv_at hl 2 rfl) ?_
                refine lv_aload hx hb dX9_changedReading_83 (lv_at hl 1 rfl) ?_
                obtain ⟨r_1782, r_1784, r_1786, r_1788, v_1790, v_1791, v_1792, v_1793, at_1795, h_1783, h_1785, h_1787, h_1789, h_1794⟩ := gF_o5 hG h_1766
                refine ty_callv ((W.runV (As := [.ref r_734, .ref r_738]) (rest := []) ⟨hx, hb, hml, hown, hts⟩ (s_X0_goHourBy l D t cI cL cC gC gE g gW gA r_1765 r_734 r_738 (by omega) h_1766 h_735 h_739) (cwV 2 hts gu_X9_changedReading_X0_goHourBy_151 rfl rfl rfl (by decide +kernel) ⟨Nat.le_of_ble_eq_true rfl, Nat.le_of_ble_eq_true rfl⟩) (tP_V hG hE at_1795 rfl) rfl rfl hl.1 rfl (lv_room (Nat.le_of_ble_eq_true rfl)) dX9_changedReading_85 ⟨Nat.le_of_ble_eq_true rfl, Nat.le_of_ble_eq_true rfl⟩)) hS (fun _ h => h) (fun H locs hp_1797 hG hS o_1798 => ?_)
                have at_1781 := va_at.keptC at_1781 o_1798 k_a0 rfl
                obtain ⟨x_1799, e_1800⟩ : ∃ y : Int32, y = yh + Int32.ofInt 1 := ⟨_, rfl⟩
                have i_x_1799 : x_1799.toInt = yh.toInt + 1 := by rw [e_1800, show Int32.ofInt 1 = 1 by decide]; exact (q_add (by rw [show (1 : Int32).toInt = 1 by decide]; omega) (by rw [show (1 : Int32).toInt = 1 by decide]; omega)).trans (by rw [show (1 : Int32).toInt = 1 by decide])
                refine lv_iinc (v := x_1799) (lv' := [(6, .int x_1799), (5, .ref r_738), (4, .ref r_734), (0, .ref a0), (1, .int a1), (2, .int a2), (3, .int a3)]) hx hb dX9_changedReading_88 hl (k := 0) rfl e_1800.symm (by decide) rfl (fun ls hl => ?_)
                refine lv_pc (pc2 := 91) rfl ?_
                refine lv_goto (tgt := 71) hx hb dX9_changedReading_91 (by decide) ?_
                exact (hWW _ _ _).mp (ih x_1799 (g + 1) H locs ls (by omega) (by omega) (by omega) (by omega) hG hS (lv_sub hl [0, 1, 2, 3, 4, 5, 6] rfl))
          have hz_yh : (0 : Int32).toInt = 0 := by decide
          exact loop (96 - 0 : Int).toNat 0 G H locs ls (by omega) (by omega) (by omega) (by omega) hG hS (lv_sub hl [0, 1, 2, 3, 4, 5, 6] rfl)
      · skip
        have c_1455 : 1 ≤ a1.toInt := q_nlt c_1455
        refine lv_aload_n hx hb dX9_changedReading_30 rfl (lv_at hl 1 rfl) ?_
        refine va_get (D := D) (ci := 8) (v := .ref r_740) (C := RX9) (T := TX9) (N := 18) hx hb hts in9 hown hK (va_one at_762) 0 rfl rfl 7 (by decide) (hts (.fieldLink RX9 43 "RiverModel" "skyB" "LRiverModel$Sky;") (List.mem_of_getElem? (i := 20) rfl)) (fun _ h9 => h9) rfl dX9_changedReading_31 ?_
        refine lv_goto (tgt := 41) hx hb dX9_changedReading_34 (by decide) ?_
        refine lv_astore (lv' := [(5, .ref r_740), (4, .ref r_734), (0, .ref a0), (1, .int a1), (2, .int a2), (3, .int a3)]) hx hb dX9_changedReading_41 hl (by decide) rfl (fun ls hl => ?_)
        refine lv_aload_n hx hb dX9_changedReading_43 rfl (lv_at hl 2 rfl) ?_
        refine va_get (D := D) (ci := 8) (v := .ref r_746) (C := RX9) (T := TX9) (N := 18) hx hb hts in9 hown hK (va_one at_762) 0 rfl rfl 10 (by decide) (hts (.fieldLink RX9 57 "RiverModel" "trial" "LRiverModel$Course;") (List.mem_of_getElem? (i := 3) rfl)) (fun _ h9 => h9) rfl dX9_changedReading_44 ?_
        refine lv_aload hx hb dX9_changedReading_47 (lv_at hl 1 rfl) ?_
        refine lv_pc (pc2 := 49) rfl ?_
        obtain ⟨r_1801, r_1803, r_1805, r_1807, v_1809, v_1810, v_1811, v_1812, at_1814, h_1802, h_1804, h_1806, h_1808, h_1813⟩ := gF_o5 hG h_747
        refine ty_callv ((W.runV (As := [.ref r_734]) (rest := []) ⟨hx, hb, hml, hown, hts⟩ (s_X0_begin l D t cI cL cC gC gE G gW gA r_746 r_734 h_747 h_735) (cwV 1 hts gu_X9_changedReading_X0_begin_147 rfl rfl rfl (by decide +kernel) ⟨Nat.le_of_ble_eq_true rfl, Nat.le_of_ble_eq_true rfl⟩) (tP_V hG hE at_1814 rfl) rfl rfl hl.1 rfl (lv_room (Nat.le_of_ble_eq_true rfl)) dX9_changedReading_49 ⟨Nat.le_of_ble_eq_true rfl, Nat.le_of_ble_eq_true rfl⟩)) hS (fun _ h => h) (fun H locs hp_1816 hG hS o_1817 => ?_)
        have at_762 := va_at.keptC at_762 o_1817 k_a0 rfl
        refine lv_iload_n hx hb dX9_changedReading_52 rfl (lv_at hl 3 rfl) ?_
        refine lv_iconst (v := 2) hx hb dX9_changedReading_53 (by decide) ?_
        refine lv_icmp_lt (tgt := 68) hx hb dX9_changedReading_54 (by decide) (fun c_1818 => ?_) (fun c_1818 => ?_)
        · skip
          have c_1818 : a1.toInt < 2 := q_lt c_1818
          refine lv_iconst (v := 0) hx hb dX9_changedReading_68 (by decide) ?_
          refine lv_istore (lv' := [(6, .int 0), (5, .ref r_740), (4, .ref r_734), (0, .ref a0), (1, .int a1), (2, .int a2), (3, .int a3)]) hx hb dX9_changedReading_69 hl (by decide) rfl (fun ls hl => ?_)
          refine lv_pc (pc2 := 71) rfl ?_
          refine lp_gen (fun WW hWW => ?_)
          have kx : ∀ (yh : Int32) (g : Nat) (H1 : Heap) (locs1 : List Loc) (ls1 : Array Slot), 0 ≤ yh.toInt → yh.toInt ≤ 96 → (g : Int) + (96 - yh.toInt) ≤ (G : Int) + 96 → tG D (gF cI cL cC gC gE g gW gA) t H1 → tF t wrC s.heap H1 locs1 → lv_has ls1 7 [(6, .int yh), (5, .ref r_740), (4, .ref r_734), (0, .ref a0), (1, .int a1), (2, .int a2), (3, .int a3)] → WW H1 locs1 (F0 m 94 ls1 []) := by
            intro yh g H locs ls v0 v1 v2 hG hS hl
            refine (hWW _ _ _).mpr ?_
            refine lv_aload_n hx hb dX9_changedReading_94 rfl (lv_at hl 3 rfl) ?_
            obtain ⟨r_1819, r_1821, r_1823, r_1825, v_1827, v_1828, r_1829, r_1831, r_1833, r_1835, r_1837, r_1839, r_1841, v_1843, r_1845, r_1847, r_1849, r_1851, at_1853, h_1820, h_1822, h_1824, h_1826, h_1830, h_1832, h_1834, h_1836, h_1838, h_1840, h_1842, h_1844, h_1846, h_1848, h_1850, h_1852⟩ := gF_o1 hG k_a0
            refine va_get (D := D) (ci := 8) (v := .ref r_1845) (C := RX9) (T := TX9) (N := 18) hx hb hts in9 hown hK (va_one at_1853) 0 rfl rfl 14 (by decide) (hts (.fieldLink RX9 74 "RiverModel" "gauges" "LRiverModel$Gauges;") (List.mem_of_getElem? (i := 8) rfl)) (fun _ h9 => h9) rfl dX9_changedReading_95 ?_
            refine lv_pc (pc2 := 98) rfl ?_
            refine lv_aload_n hx hb dX9_changedReading_98 rfl (lv_at hl 3 rfl) ?_
            refine va_get (D := D) (ci := 8) (v := .ref r_1837) (C := RX9) (T := TX9) (N := 18) hx hb hts in9 hown hK (va_one at_1853) 0 rfl rfl 10 (by decide) (hts (.fieldLink RX9 57 "RiverModel" "trial" "LRiverModel$Course;") (List.mem_of_getElem? (i := 3) rfl)) (fun _ h9 => h9) rfl dX9_changedReading_99 ?_
            refine lv_iload_n hx hb dX9_changedReading_102 rfl (lv_at hl 5 rfl) ?_
            obtain ⟨r_1854, r_1856, r_1858, at_1860, h_1855, h_1857, h_1859⟩ := gF_o6 hG h_1846
            refine ty_calll ((W.runV (As := [.ref r_1837, .int a2]) (rest := []) ⟨hx, hb, hml, hown, hts⟩ (s_X1_reading l D t cI cL cC gC gE g gW gA r_1845 r_1837 a2 h_1846 h_1838) (cwV 2 hts gu_X9_changedReading_X1_reading_215 rfl rfl rfl (by decide +kernel) ⟨Nat.le_of_ble_eq_true rfl, Nat.le_of_ble_eq_true rfl⟩) (tP_V hG hE at_1860 rfl) rfl rfl hl.1 rfl (lv_room (Nat.le_of_ble_eq_true rfl)) dX9_changedReading_103 ⟨Nat.le_of_ble_eq_true rfl, Nat.le_of_ble_eq_true rfl⟩)) hS (fun k h => by simp [wr0] at h) (fun z_1861 H locs hp_1862 hG hS o_1863 => ?_)
            have at_1853 := va_at.keptC at_1853 o_1863 k_a0 rfl
            have at_1860 := va_at.keptC at_1860 o_1863 h_1846 rfl
            exact ty_lret hx hb hr hlk (hG.weak (fun _ _ => gF_mono (by omega))) hS True.intro dX9_changedReading_106
          have loop : ∀ (k : Nat) (yh : Int32) (g : Nat) (H1 : Heap) (locs1 : List Loc) (ls1 : Array Slot), 96 - yh.toInt ≤ (k : Int) → 0 ≤ yh.toInt → yh.toInt ≤ 96 → (g : Int) + (96 - yh.toInt) ≤ (G : Int) + 96 → tG D (gF cI cL cC gC gE g gW gA) t H1 → tF t wrC s.heap H1 locs1 → lv_has ls1 7 [(6, .int yh), (5, .ref r_740), (4, .ref r_734), (0, .ref a0), (1, .int a1), (2, .int a2), (3, .int a3)] → WW H1 locs1 (F0 m 71 ls1 []) := by
            intro k
            induction k with
            | zero =>
              intro yh g H locs ls hk v0 v1 v2 hG hS hl
              refine (hWW _ _ _).mpr ?_
              refine lv_iload hx hb dX9_changedReading_71 (lv_at hl 0 rfl) ?_
              refine lv_iload_n hx hb dX9_changedReading_73 rfl (lv_at hl 6 rfl) ?_
              refine lv_icmp_gt (tgt := 94) hx hb dX9_changedReading_74 (by decide) (fun c_1864 => ?_) (fun c_1864 => ?_)
              · skip
                have c_1864 : a3.toInt < yh.toInt := q_lt c_1864
                exact (hWW _ _ _).mp (kx yh g H locs ls (by omega) (by omega) (by omega) hG hS (lv_sub hl [0, 1, 2, 3, 4, 5, 6] rfl))
              · skip
                have c_1864 : yh.toInt ≤ a3.toInt := q_nlt c_1864
                refine lv_pc (pc2 := 77) rfl ?_
                refine lv_aload_n hx hb dX9_changedReading_77 rfl (lv_at hl 3 rfl) ?_
                obtain ⟨r_1865, r_1867, r_1869, r_1871, v_1873, v_1874, r_1875, r_1877, r_1879, r_1881, r_1883, r_1885, r_1887, v_1889, r_1891, r_1893, r_1895, r_1897, at_1899, h_1866, h_1868, h_1870, h_1872, h_1876, h_1878, h_1880, h_1882, h_1884, h_1886, h_1888, h_1890, h_1892, h_1894, h_1896, h_1898⟩ := gF_o1 hG k_a0
                refine va_get (D := D) (ci := 8) (v := .ref r_1883) (C := RX9) (T := TX9) (N := 18) hx hb hts in9 hown hK (va_one at_1899) 0 rfl rfl 10 (by decide) (hts (.fieldLink RX9 57 "RiverModel" "trial" "LRiverModel$Course;") (List.mem_of_getElem? (i := 3) rfl)) (fun _ h9 => h9) rfl dX9_changedReading_78 ?_
                refine lv_aload hx hb dX9_changedReading_81 (lv_at hl 2 rfl) ?_
                refine lv_aload hx hb dX9_changedReading_83 (lv_at hl 1 rfl) ?_
                obtain ⟨r_1900, r_1902, r_1904, r_1906, v_1908, v_1909, v_1910, v_1911, at_1913, h_1901, h_1903, h_1905, h_1907, h_1912⟩ := gF_o5 hG h_1884
                refine ty_callv ((W.runV (As := [.ref r_734, .ref r_740]) (rest := []) ⟨hx, hb, hml, hown, hts⟩ (s_X0_goHourBy l D t cI cL cC gC gE g gW gA r_1883 r_734 r_740 (by omega) h_1884 h_735 h_741) (cwV 2 hts gu_X9_changedReading_X0_goHourBy_151 rfl rfl rfl (by decide +kernel) ⟨Nat.le_of_ble_eq_true rfl, Nat.le_of_ble_eq_true rfl⟩) (tP_V hG hE at_1913 rfl) rfl rfl hl.1 rfl (lv_room (Nat.le_of_ble_eq_true rfl)) dX9_changedReading_85 ⟨Nat.le_of_ble_eq_true rfl, Nat.le_of_ble_eq_true rfl⟩)) hS (fun _ h => h) (fun H locs hp_1915 hG hS o_1916 => ?_)
                have at_1899 := va_at.keptC at_1899 o_1916 k_a0 rfl
                obtain ⟨x_1917, e_1918⟩ : ∃ y : Int32, y = yh + Int32.ofInt 1 := ⟨_, rfl⟩
                have i_x_1917 : x_1917.toInt = yh.toInt + 1 := by rw [e_1918, show Int32.ofInt 1 = 1 by decide]; exact (q_add (by rw [show (1 : Int32).toInt = 1 by decide]; omega) (by rw [show (1 : Int32).toInt = 1 by decide]; omega)).trans (by rw [show (1 : Int32).toInt = 1 by decide])
                refine lv_iinc (v := x_1917) (lv' := [(6, .int x_1917), (5, .ref r_740), (4, .ref r_734), (0, .ref a0), (1, .int a1), (2, .int a2), (3, .int a3)]) hx hb dX9_changedReading_88 hl (k := 0) rfl e_1918.symm (by decide) rfl (fun ls hl => ?_)
                refine lv_goto (tgt := 71) hx hb dX9_changedReading_91 (by decide) ?_
                exfalso; omega
            | succ k ih =>
              intro yh g H locs ls hk v0 v1 v2 hG hS hl
              refine (hWW _ _ _).mpr ?_
              refine lv_iload hx hb dX9_changedReading_71 (lv_at hl 0 rfl) ?_
              refine lv_pc (pc2 := 73) rfl ?_
              refine lv_iload_n hx hb dX9_changedReading_73 rfl (lv_at hl 6 rfl) ?_
              refine lv_icmp_gt (tgt := 94) hx hb dX9_changedReading_74 (by decide) (fun c_1919 => ?_) (fun c_1919 => ?_)
              · skip
                have c_1919 : a3.toInt < yh.toInt := q_lt c_1919
                exact (hWW _ _ _).mp (kx yh g H locs ls (by omega) (by omega) (by omega) hG hS (lv_sub hl [0, 1, 2, 3, 4, 5, 6] rfl))
              · skip
                have c_1919 : yh.toInt ≤ a3.toInt := q_nlt c_1919
                refine lv_aload_n hx hb dX9_changedReading_77 rfl (lv_at hl 3 rfl) ?_
                obtain ⟨r_1920, r_1922, r_1924, r_1926, v_1928, v_1929, r_1930, r_1932, r_1934, r_1936, r_1938, r_1940, r_1942, v_1944, r_1946, r_1948, r_1950, r_1952, at_1954, h_1921, h_1923, h_1925, h_1927, h_1931, h_1933, h_1935, h_1937, h_1939, h_1941, h_1943, h_1945, h_1947, h_1949, h_1951, h_1953⟩ := gF_o1 hG k_a0
                refine va_get (D := D) (ci := 8) (v := .ref r_1938) (C := RX9) (T := TX9) (N := 18) hx hb hts in9 hown hK (va_one at_1954) 0 rfl rfl 10 (by decide) (hts (.fieldLink RX9 57 "RiverModel" "trial" "LRiverModel$Course;") (List.mem_of_getElem? (i := 3) rfl)) (fun _ h9 => h9) rfl dX9_changedReading_78 ?_
                refine lv_aload hx hb dX9_changedReading_81 (lv_at hl 2 rfl) ?_
                refine lv_aload hx hb dX9_changedReading_83 (lv_at hl 1 rfl) ?_
                obtain ⟨r_1955, r_1957, r_1959, r_1961, v_1963, v_1964, v_1965, v_1966, at_1968, h_1956, h_1958, h_1960, h_1962, h_1967⟩ := gF_o5 hG h_1939
                refine ty_callv ((W.runV (As := [.ref r_734, .ref r_740]) (rest := []) ⟨hx, hb, hml, hown, hts⟩ (s_X0_goHourBy l D t cI cL cC gC gE g gW gA r_1938 r_734 r_740 (by omega) h_1939 h_735 h_741) (cwV 2 hts gu_X9_changedReading_X0_goHourBy_151 rfl rfl rfl (by decide +kernel) ⟨Nat.le_of_ble_eq_true rfl, Nat.le_of_ble_eq_true rfl⟩) (tP_V hG hE at_1968 rfl) rfl rfl hl.1 rfl (lv_room (Nat.le_of_ble_eq_true rfl)) dX9_changedReading_85 ⟨Nat.le_of_ble_eq_true rfl, Nat.le_of_ble_eq_true rfl⟩)) hS (fun _ h => h) (fun H locs hp_1970 hG hS o_1971 => ?_)
                have at_1954 := va_at.keptC at_1954 o_1971 k_a0 rfl
                obtain ⟨x_1972, e_1973⟩ : ∃ y : Int32, y = yh + Int32.ofInt 1 := ⟨_, rfl⟩
                have i_x_1972 : x_1972.toInt = yh.toInt + 1 := by rw [e_1973, show Int32.ofInt 1 = 1 by decide]; exact (q_add (by rw [show (1 : Int32).toInt = 1 by decide]; omega) (by rw [show (1 : Int32).toInt = 1 by decide]; omega)).trans (by rw [show (1 : Int32).toInt = 1 by decide])
                refine lv_iinc (v := x_1972) (lv' := [(6, .int x_1972), (5, .ref r_740), (4, .ref r_734), (0, .ref a0), (1, .int a1), (2, .int a2), (3, .int a3)]) hx hb dX9_changedReading_88 hl (k := 0) rfl e_1973.symm (by decide) rfl (fun ls hl => ?_)
                refine lv_pc (pc2 := 91) rfl ?_
                refine lv_goto (tgt := 71) hx hb dX9_changedReading_91 (by decide) ?_
                exact (hWW _ _ _).mp (ih x_1972 (g + 1) H locs ls (by omega) (by omega) (by omega) (by omega) hG hS (lv_sub hl [0, 1, 2, 3, 4, 5, 6] rfl))
          have hz_yh : (0 : Int32).toInt = 0 := by decide
          exact loop (96 - 0 : Int).toNat 0 G H locs ls (by omega) (by omega) (by omega) (by omega) hG hS (lv_sub hl [0, 1, 2, 3, 4, 5, 6] rfl)
        · skip
          have c_1818 : 2 ≤ a1.toInt := q_nlt c_1818
          refine lv_aload_n hx hb dX9_changedReading_57 rfl (lv_at hl 2 rfl) ?_
          refine va_get (D := D) (ci := 8) (v := .ref r_746) (C := RX9) (T := TX9) (N := 18) hx hb hts in9 hown hK (va_one at_762) 0 rfl rfl 10 (by decide) (hts (.fieldLink RX9 57 "RiverModel" "trial" "LRiverModel$Course;") (List.mem_of_getElem? (i := 3) rfl)) (fun _ h9 => h9) rfl dX9_changedReading_58 ?_
          refine lv_aload_n hx hb dX9_changedReading_61 rfl (lv_at hl 2 rfl) ?_
          refine va_get (D := D) (ci := 8) (v := .ref r_742) (C := RX9) (T := TX9) (N := 18) hx hb hts in9 hown hK (va_one at_762) 0 rfl rfl 8 (by decide) (hts (.fieldLink RX9 46 "RiverModel" "startsB" "[I") (List.mem_of_getElem? (i := 16) rfl)) (fun _ h9 => h9) rfl dX9_changedReading_62 ?_
          obtain ⟨r_1974, r_1976, r_1978, r_1980, v_1982, v_1983, v_1984, v_1985, at_1987, h_1975, h_1977, h_1979, h_1981, h_1986⟩ := gF_o5 hG h_747
          refine ty_callv ((W.runV (As := [.ref r_742]) (rest := []) ⟨hx, hb, hml, hown, hts⟩ (s_X0_startFrom l D t cI cL cC gC gE G gW gA r_746 r_742 h_747 h_743) (cwV 1 hts gu_X9_changedReading_X0_startFrom_380 rfl rfl rfl (by decide +kernel) ⟨Nat.le_of_ble_eq_true rfl, Nat.le_of_ble_eq_true rfl⟩) (tP_V hG hE at_1987 rfl) rfl rfl hl.1 rfl (lv_room (Nat.le_of_ble_eq_true rfl)) dX9_changedReading_65 ⟨Nat.le_of_ble_eq_true rfl, Nat.le_of_ble_eq_true rfl⟩)) hS (fun _ h => h) (fun H locs hp_1989 hG hS o_1990 => ?_)
          have at_762 := va_at.keptC at_762 o_1990 k_a0 rfl
          refine lv_iconst (v := 0) hx hb dX9_changedReading_68 (by decide) ?_
          refine lv_istore (lv' := [(6, .int 0), (5, .ref r_740), (4, .ref r_734), (0, .ref a0), (1, .int a1), (2, .int a2), (3, .int a3)]) hx hb dX9_changedReading_69 hl (by decide) rfl (fun ls hl => ?_)
          refine lv_pc (pc2 := 71) rfl ?_
          refine lp_gen (fun WW hWW => ?_)
          have kx : ∀ (yh : Int32) (g : Nat) (H1 : Heap) (locs1 : List Loc) (ls1 : Array Slot), 0 ≤ yh.toInt → yh.toInt ≤ 96 → (g : Int) + (96 - yh.toInt) ≤ (G : Int) + 96 → tG D (gF cI cL cC gC gE g gW gA) t H1 → tF t wrC s.heap H1 locs1 → lv_has ls1 7 [(6, .int yh), (5, .ref r_740), (4, .ref r_734), (0, .ref a0), (1, .int a1), (2, .int a2), (3, .int a3)] → WW H1 locs1 (F0 m 94 ls1 []) := by
            intro yh g H locs ls v0 v1 v2 hG hS hl
            refine (hWW _ _ _).mpr ?_
            refine lv_pc (pc2 := 94) rfl ?_
            refine lv_aload_n hx hb dX9_changedReading_94 rfl (lv_at hl 3 rfl) ?_
            obtain ⟨r_1991, r_1993, r_1995, r_1997, v_1999, v_2000, r_2001, r_2003, r_2005, r_2007, r_2009, r_2011, r_2013, v_2015, r_2017, r_2019, r_2021, r_2023, at_2025, h_1992, h_1994, h_1996, h_1998, h_2002, h_2004, h_2006, h_2008, h_2010, h_2012, h_2014, h_2016, h_2018, h_2020, h_2022, h_2024⟩ := gF_o1 hG k_a0
            refine va_get (D := D) (ci := 8) (v := .ref r_2017) (C := RX9) (T := TX9) (N := 18) hx hb hts in9 hown hK (va_one at_2025) 0 rfl rfl 14 (by decide) (hts (.fieldLink RX9 74 "RiverModel" "gauges" "LRiverModel$Gauges;") (List.mem_of_getElem? (i := 8) rfl)) (fun _ h9 => h9) rfl dX9_changedReading_95 ?_
            refine lv_aload_n hx hb dX9_changedReading_98 rfl (lv_at hl 3 rfl) ?_
            refine va_get (D := D) (ci := 8) (v := .ref r_2009) (C := RX9) (T := TX9) (N := 18) hx hb hts in9 hown hK (va_one at_2025) 0 rfl rfl 10 (by decide) (hts (.fieldLink RX9 57 "RiverModel" "trial" "LRiverModel$Course;") (List.mem_of_getElem? (i := 3) rfl)) (fun _ h9 => h9) rfl dX9_changedReading_99 ?_
            refine lv_iload_n hx hb dX9_changedReading_102 rfl (lv_at hl 5 rfl) ?_
            obtain ⟨r_2026, r_2028, r_2030, at_2032, h_2027, h_2029, h_2031⟩ := gF_o6 hG h_2018
            refine ty_calll ((W.runV (As := [.ref r_2009, .int a2]) (rest := []) ⟨hx, hb, hml, hown, hts⟩ (s_X1_reading l D t cI cL cC gC gE g gW gA r_2017 r_2009 a2 h_2018 h_2010) (cwV 2 hts gu_X9_changedReading_X1_reading_215 rfl rfl rfl (by decide +kernel) ⟨Nat.le_of_ble_eq_true rfl, Nat.le_of_ble_eq_true rfl⟩) (tP_V hG hE at_2032 rfl) rfl rfl hl.1 rfl (lv_room (Nat.le_of_ble_eq_true rfl)) dX9_changedReading_103 ⟨Nat.le_of_ble_eq_true rfl, Nat.le_of_ble_eq_true rfl⟩)) hS (fun k h => by simp [wr0] at h) (fun z_2033 H locs hp_2034 hG hS o_2035 => ?_)
            have at_2025 := va_at.keptC at_2025 o_2035 k_a0 rfl
            have at_2032 := va_at.keptC at_2032 o_2035 h_2018 rfl
            exact ty_lret hx hb hr hlk (hG.weak (fun _ _ => gF_mono (by omega))) hS True.intro dX9_changedReading_106
          have loop : ∀ (k : Nat) (yh : Int32) (g : Nat) (H1 : Heap) (locs1 : List Loc) (ls1 : Array Slot), 96 - yh.toInt ≤ (k : Int) → 0 ≤ yh.toInt → yh.toInt ≤ 96 → (g : Int) + (96 - yh.toInt) ≤ (G : Int) + 96 → tG D (gF cI cL cC gC gE g gW gA) t H1 → tF t wrC s.heap H1 locs1 → lv_has ls1 7 [(6, .int yh), (5, .ref r_740), (4, .ref r_734), (0, .ref a0), (1, .int a1), (2, .int a2), (3, .int a3)] → WW H1 locs1 (F0 m 71 ls1 []) := by
            intro k
            induction k with
            | zero =>
              intro yh g H locs ls hk v0 v1 v2 hG hS hl
              refine (hWW _ _ _).mpr ?_
              refine lv_iload hx hb dX9_changedReading_71 (lv_at hl 0 rfl) ?_
              refine lv_pc (pc2 := 73) rfl ?_
              refine lv_iload_n hx hb dX9_changedReading_73 rfl (lv_at hl 6 rfl) ?_
              refine lv_icmp_gt (tgt := 94) hx hb dX9_changedReading_74 (by decide) (fun c_2036 => ?_) (fun c_2036 => ?_)
              · skip
                have c_2036 : a3.toInt < yh.toInt := q_lt c_2036
                exact (hWW _ _ _).mp (kx yh g H locs ls (by omega) (by omega) (by omega) hG hS (lv_sub hl [0, 1, 2, 3, 4, 5, 6] rfl))
              · skip
                have c_2036 : yh.toInt ≤ a3.toInt := q_nlt c_2036
                refine lv_aload_n hx hb dX9_changedReading_77 rfl (lv_at hl 3 rfl) ?_
                obtain ⟨r_2037, r_2039, r_2041, r_2043, v_2045, v_2046, r_2047, r_2049, r_2051, r_2053, r_2055, r_2057, r_2059, v_2061, r_2063, r_2065, r_2067, r_2069, at_2071, h_2038, h_2040, h_2042, h_2044, h_2048, h_2050, h_2052, h_2054, h_2056, h_2058, h_2060, h_2062, h_2064, h_2066, h_2068, h_2070⟩ := gF_o1 hG k_a0
                refine va_get (D := D) (ci := 8) (v := .ref r_2055) (C := RX9) (T := TX9) (N := 18) hx hb hts in9 hown hK (va_one at_2071) 0 rfl rfl 10 (by decide) (hts (.fieldLink RX9 57 "RiverModel" "trial" "LRiverModel$Course;") (List.mem_of_getElem? (i := 3) rfl)) (fun _ h9 => h9) rfl dX9_changedReading_78 ?_
                refine lv_aload hx hb dX9_changedReading_81 (lv_at hl 2 rfl) ?_
                refine lv_aload hx hb dX9_changedReading_83 (lv_at hl 1 rfl) ?_
                obtain ⟨r_2072, r_2074, r_2076, r_2078, v_2080, v_2081, v_2082, v_2083, at_2085, h_2073, h_2075, h_2077, h_2079, h_2084⟩ := gF_o5 hG h_2056
                refine ty_callv ((W.runV (As := [.ref r_734, .ref r_740]) (rest := []) ⟨hx, hb, hml, hown, hts⟩ (s_X0_goHourBy l D t cI cL cC gC gE g gW gA r_2055 r_734 r_740 (by omega) h_2056 h_735 h_741) (cwV 2 hts gu_X9_changedReading_X0_goHourBy_151 rfl rfl rfl (by decide +kernel) ⟨Nat.le_of_ble_eq_true rfl, Nat.le_of_ble_eq_true rfl⟩) (tP_V hG hE at_2085 rfl) rfl rfl hl.1 rfl (lv_room (Nat.le_of_ble_eq_true rfl)) dX9_changedReading_85 ⟨Nat.le_of_ble_eq_true rfl, Nat.le_of_ble_eq_true rfl⟩)) hS (fun _ h => h) (fun H locs hp_2087 hG hS o_2088 => ?_)
                have at_2071 := va_at.keptC at_2071 o_2088 k_a0 rfl
                obtain ⟨x_2089, e_2090⟩ : ∃ y : Int32, y = yh + Int32.ofInt 1 := ⟨_, rfl⟩
                have i_x_2089 : x_2089.toInt = yh.toInt + 1 := by rw [e_2090, show Int32.ofInt 1 = 1 by decide]; exact (q_add (by rw [show (1 : Int32).toInt = 1 by decide]; omega) (by rw [show (1 : Int32).toInt = 1 by decide]; omega)).trans (by rw [show (1 : Int32).toInt = 1 by decide])
                refine lv_iinc (v := x_2089) (lv' := [(6, .int x_2089), (5, .ref r_740), (4, .ref r_734), (0, .ref a0), (1, .int a1), (2, .int a2), (3, .int a3)]) hx hb dX9_changedReading_88 hl (k := 0) rfl e_2090.symm (by decide) rfl (fun ls hl => ?_)
                refine lv_pc (pc2 := 91) rfl ?_
                refine lv_goto (tgt := 71) hx hb dX9_changedReading_91 (by decide) ?_
                exfalso; omega
            | succ k ih =>
              intro yh g H locs ls hk v0 v1 v2 hG hS hl
              refine (hWW _ _ _).mpr ?_
              refine lv_iload hx hb dX9_changedReading_71 (lv_at hl 0 rfl) ?_
              refine lv_iload_n hx hb dX9_changedReading_73 rfl (lv_at hl 6 rfl) ?_
              refine lv_icmp_gt (tgt := 94) hx hb dX9_changedReading_74 (by decide) (fun c_2091 => ?_) (fun c_2091 => ?_)
              · skip
                have c_2091 : a3.toInt < yh.toInt := q_lt c_2091
                exact (hWW _ _ _).mp (kx yh g H locs ls (by omega) (by omega) (by omega) hG hS (lv_sub hl [0, 1, 2, 3, 4, 5, 6] rfl))
              · skip
                have c_2091 : yh.toInt ≤ a3.toInt := q_nlt c_2091
                refine lv_aload_n hx hb dX9_changedReading_77 rfl (lv_at hl 3 rfl) ?_
                obtain ⟨r_2092, r_2094, r_2096, r_2098, v_2100, v_2101, r_2102, r_2104, r_2106, r_2108, r_2110, r_2112, r_2114, v_2116, r_2118, r_2120, r_2122, r_2124, at_2126, h_2093, h_2095, h_2097, h_2099, h_2103, h_2105, h_2107, h_2109, h_2111, h_2113, h_2115, h_2117, h_2119, h_2121, h_2123, h_2125⟩ := gF_o1 hG k_a0
                refine va_get (D := D) (ci := 8) (v := .ref r_2110) (C := RX9) (T := TX9) (N := 18) hx hb hts in9 hown hK (va_one at_2126) 0 rfl rfl 10 (by decide) (hts (.fieldLink RX9 57 "RiverModel" "trial" "LRiverModel$Course;") (List.mem_of_getElem? (i := 3) rfl)) (fun _ h9 => h9) rfl dX9_changedReading_78 ?_
                refine lv_aload hx hb dX9_changedReading_81 (lv_at hl 2 rfl) ?_
                refine lv_aload hx hb dX9_changedReading_83 (lv_at hl 1 rfl) ?_
                refine lv_pc (pc2 := 85) rfl ?_
                obtain ⟨r_2127, r_2129, r_2131, r_2133, v_2135, v_2136, v_2137, v_2138, at_2140, h_2128, h_2130, h_2132, h_2134, h_2139⟩ := gF_o5 hG h_2111
                refine ty_callv ((W.runV (As := [.ref r_734, .ref r_740]) (rest := []) ⟨hx, hb, hml, hown, hts⟩ (s_X0_goHourBy l D t cI cL cC gC gE g gW gA r_2110 r_734 r_740 (by omega) h_2111 h_735 h_741) (cwV 2 hts gu_X9_changedReading_X0_goHourBy_151 rfl rfl rfl (by decide +kernel) ⟨Nat.le_of_ble_eq_true rfl, Nat.le_of_ble_eq_true rfl⟩) (tP_V hG hE at_2140 rfl) rfl rfl hl.1 rfl (lv_room (Nat.le_of_ble_eq_true rfl)) dX9_changedReading_85 ⟨Nat.le_of_ble_eq_true rfl, Nat.le_of_ble_eq_true rfl⟩)) hS (fun _ h => h) (fun H locs hp_2142 hG hS o_2143 => ?_)
                have at_2126 := va_at.keptC at_2126 o_2143 k_a0 rfl
                obtain ⟨x_2144, e_2145⟩ : ∃ y : Int32, y = yh + Int32.ofInt 1 := ⟨_, rfl⟩
                have i_x_2144 : x_2144.toInt = yh.toInt + 1 := by rw [e_2145, show Int32.ofInt 1 = 1 by decide]; exact (q_add (by rw [show (1 : Int32).toInt = 1 by decide]; omega) (by rw [show (1 : Int32).toInt = 1 by decide]; omega)).trans (by rw [show (1 : Int32).toInt = 1 by decide])
                refine lv_iinc (v := x_2144) (lv' := [(6, .int x_2144), (5, .ref r_740), (4, .ref r_734), (0, .ref a0), (1, .int a1), (2, .int a2), (3, .int a3)]) hx hb dX9_changedReading_88 hl (k := 0) rfl e_2145.symm (by decide) rfl (fun ls hl => ?_)
                refine lv_goto (tgt := 71) hx hb dX9_changedReading_91 (by decide) ?_
                exact (hWW _ _ _).mp (ih x_2144 (g + 1) H locs ls (by omega) (by omega) (by omega) (by omega) hG hS (lv_sub hl [0, 1, 2, 3, 4, 5, 6] rfl))
          have hz_yh : (0 : Int32).toInt = 0 := by decide
          exact loop (96 - 0 : Int).toNat 0 G H locs ls (by omega) (by omega) (by omega) (by omega) hG hS (lv_sub hl [0, 1, 2, 3, 4, 5, 6] rfl)
