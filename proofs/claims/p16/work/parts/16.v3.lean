theorem dX4_cell_0 : decode cX4_cell 0 = .ok (.iload_n 1, 1) := by decide +kernel
theorem dX4_cell_1 : decode cX4_cell 1 = .ok (.ifCond .lt 19, 3) := by decide +kernel
theorem dX4_cell_4 : decode cX4_cell 4 = .ok (.iload_n 1, 1) := by decide +kernel
theorem dX4_cell_5 : decode cX4_cell 5 = .ok (.bipush 40, 2) := by decide +kernel
theorem dX4_cell_7 : decode cX4_cell 7 = .ok (.if_icmp .ge 13, 3) := by decide +kernel
theorem dX4_cell_10 : decode cX4_cell 10 = .ok (.iload_n 2, 1) := by decide +kernel
theorem dX4_cell_11 : decode cX4_cell 11 = .ok (.ifCond .lt 9, 3) := by decide +kernel
theorem dX4_cell_14 : decode cX4_cell 14 = .ok (.iload_n 2, 1) := by decide +kernel
theorem dX4_cell_15 : decode cX4_cell 15 = .ok (.bipush 6, 2) := by decide +kernel
theorem dX4_cell_17 : decode cX4_cell 17 = .ok (.if_icmp .lt 8, 3) := by decide +kernel
theorem dX4_cell_20 : decode cX4_cell 20 = .ok (.bipush (-4), 2) := by decide +kernel
theorem dX4_cell_22 : decode cX4_cell 22 = .ok (.goto 14, 3) := by decide +kernel
theorem dX4_cell_25 : decode cX4_cell 25 = .ok (.aload_n 0, 1) := by decide +kernel
theorem dX4_cell_26 : decode cX4_cell 26 = .ok (.getfield 9, 3) := by decide +kernel
theorem dX4_cell_29 : decode cX4_cell 29 = .ok (.iload_n 1, 1) := by decide +kernel
theorem dX4_cell_30 : decode cX4_cell 30 = .ok (.bipush 6, 2) := by decide +kernel
theorem dX4_cell_32 : decode cX4_cell 32 = .ok (.imul, 1) := by decide +kernel
theorem dX4_cell_33 : decode cX4_cell 33 = .ok (.iload_n 2, 1) := by decide +kernel
theorem dX4_cell_34 : decode cX4_cell 34 = .ok (.iadd, 1) := by decide +kernel
theorem dX4_cell_35 : decode cX4_cell 35 = .ok (.iaload, 1) := by decide +kernel
theorem dX4_cell_36 : decode cX4_cell 36 = .ok (.ireturn, 1) := by decide +kernel
theorem dX4_putCell_0 : decode cX4_putCell 0 = .ok (.iload_n 1, 1) := by decide +kernel
theorem dX4_putCell_1 : decode cX4_putCell 1 = .ok (.invokestatic 43, 3) := by decide +kernel
theorem dX4_putCell_4 : decode cX4_putCell 4 = .ok (.ifCond .ne 24, 3) := by decide +kernel
theorem dX4_putCell_7 : decode cX4_putCell 7 = .ok (.iload_n 2, 1) := by decide +kernel
theorem dX4_putCell_8 : decode cX4_putCell 8 = .ok (.iconst 0, 1) := by decide +kernel
theorem dX4_putCell_9 : decode cX4_putCell 9 = .ok (.iconst 5, 1) := by decide +kernel
theorem dX4_putCell_10 : decode cX4_putCell 10 = .ok (.invokestatic 47, 3) := by decide +kernel
theorem dX4_putCell_13 : decode cX4_putCell 13 = .ok (.ifCond .ne 15, 3) := by decide +kernel
theorem dX4_putCell_16 : decode cX4_putCell 16 = .ok (.aload_n 0, 1) := by decide +kernel
theorem dX4_putCell_17 : decode cX4_putCell 17 = .ok (.getfield 9, 3) := by decide +kernel
theorem dX4_putCell_20 : decode cX4_putCell 20 = .ok (.iload_n 1, 1) := by decide +kernel
theorem dX4_putCell_21 : decode cX4_putCell 21 = .ok (.bipush 6, 2) := by decide +kernel
theorem dX4_putCell_23 : decode cX4_putCell 23 = .ok (.imul, 1) := by decide +kernel
theorem dX4_putCell_24 : decode cX4_putCell 24 = .ok (.iload_n 2, 1) := by decide +kernel
theorem dX4_putCell_25 : decode cX4_putCell 25 = .ok (.iadd, 1) := by decide +kernel
theorem dX4_putCell_26 : decode cX4_putCell 26 = .ok (.iload_n 3, 1) := by decide +kernel
theorem dX4_putCell_27 : decode cX4_putCell 27 = .ok (.iastore, 1) := by decide +kernel
theorem dX4_putCell_28 : decode cX4_putCell 28 = .ok (.return_, 1) := by decide +kernel
theorem dX4_put_0 : decode cX4_put 0 = .ok (.iconst 0, 1) := by decide +kernel
theorem dX4_put_1 : decode cX4_put 1 = .ok (.istore_n 3, 1) := by decide +kernel
theorem dX4_put_2 : decode cX4_put 2 = .ok (.iload_n 3, 1) := by decide +kernel
theorem dX4_put_3 : decode cX4_put 3 = .ok (.bipush 6, 2) := by decide +kernel
theorem dX4_put_5 : decode cX4_put 5 = .ok (.if_icmp .ge 18, 3) := by decide +kernel
theorem dX4_put_8 : decode cX4_put 8 = .ok (.aload_n 0, 1) := by decide +kernel
theorem dX4_put_9 : decode cX4_put 9 = .ok (.iload_n 1, 1) := by decide +kernel
theorem dX4_put_10 : decode cX4_put 10 = .ok (.iload_n 3, 1) := by decide +kernel
theorem dX4_put_11 : decode cX4_put 11 = .ok (.aload_n 2, 1) := by decide +kernel
theorem dX4_put_12 : decode cX4_put 12 = .ok (.iload_n 3, 1) := by decide +kernel
theorem dX4_put_13 : decode cX4_put 13 = .ok (.iaload, 1) := by decide +kernel
theorem dX4_put_14 : decode cX4_put 14 = .ok (.invokevirtual 51, 3) := by decide +kernel
theorem dX4_put_17 : decode cX4_put 17 = .ok (.iinc 3 1, 3) := by decide +kernel
theorem dX4_put_20 : decode cX4_put 20 = .ok (.goto (-18), 3) := by decide +kernel
theorem dX4_put_23 : decode cX4_put 23 = .ok (.return_, 1) := by decide +kernel
theorem dX4_add_0 : decode cX4_add 0 = .ok (.aload_n 0, 1) := by decide +kernel
theorem dX4_add_1 : decode cX4_add 1 = .ok (.getfield 21, 3) := by decide +kernel
theorem dX4_add_4 : decode cX4_add 4 = .ok (.bipush 40, 2) := by decide +kernel
theorem dX4_add_6 : decode cX4_add 6 = .ok (.if_icmp .lt 4, 3) := by decide +kernel
theorem dX4_add_9 : decode cX4_add 9 = .ok (.return_, 1) := by decide +kernel
theorem dX4_add_10 : decode cX4_add 10 = .ok (.aload_n 0, 1) := by decide +kernel
theorem dX4_add_11 : decode cX4_add 11 = .ok (.aload_n 0, 1) := by decide +kernel
theorem dX4_add_12 : decode cX4_add 12 = .ok (.getfield 21, 3) := by decide +kernel
theorem dX4_add_15 : decode cX4_add 15 = .ok (.aload_n 1, 1) := by decide +kernel
theorem dX4_add_16 : decode cX4_add 16 = .ok (.invokevirtual 55, 3) := by decide +kernel
theorem dX4_add_19 : decode cX4_add 19 = .ok (.aload_n 1, 1) := by decide +kernel
theorem dX4_add_20 : decode cX4_add 20 = .ok (.iconst 0, 1) := by decide +kernel
theorem dX4_add_21 : decode cX4_add 21 = .ok (.iaload, 1) := by decide +kernel
theorem dX4_add_22 : decode cX4_add 22 = .ok (.bipush 115, 2) := by decide +kernel
theorem dX4_add_24 : decode cX4_add 24 = .ok (.if_icmp .ne 34, 3) := by decide +kernel
theorem dX4_add_27 : decode cX4_add 27 = .ok (.aload_n 1, 1) := by decide +kernel
theorem dX4_add_28 : decode cX4_add 28 = .ok (.iconst 1, 1) := by decide +kernel
theorem dX4_add_29 : decode cX4_add 29 = .ok (.iaload, 1) := by decide +kernel
theorem dX4_add_30 : decode cX4_add 30 = .ok (.invokestatic 59, 3) := by decide +kernel
theorem dX4_add_33 : decode cX4_add 33 = .ok (.ifCond .ne 25, 3) := by decide +kernel
theorem dX4_add_36 : decode cX4_add 36 = .ok (.aload_n 0, 1) := by decide +kernel
theorem dX4_add_37 : decode cX4_add 37 = .ok (.getfield 15, 3) := by decide +kernel
theorem dX4_add_40 : decode cX4_add 40 = .ok (.aload_n 1, 1) := by decide +kernel
theorem dX4_add_41 : decode cX4_add 41 = .ok (.iconst 1, 1) := by decide +kernel
theorem dX4_add_42 : decode cX4_add 42 = .ok (.iaload, 1) := by decide +kernel
theorem dX4_add_43 : decode cX4_add 43 = .ok (.aload_n 0, 1) := by decide +kernel
theorem dX4_add_44 : decode cX4_add 44 = .ok (.getfield 21, 3) := by decide +kernel
theorem dX4_add_47 : decode cX4_add 47 = .ok (.iastore, 1) := by decide +kernel
theorem dX4_add_48 : decode cX4_add 48 = .ok (.aload_n 0, 1) := by decide +kernel
theorem dX4_add_49 : decode cX4_add 49 = .ok (.dup, 1) := by decide +kernel
theorem dX4_add_50 : decode cX4_add 50 = .ok (.getfield 25, 3) := by decide +kernel
theorem dX4_add_53 : decode cX4_add 53 = .ok (.iconst 1, 1) := by decide +kernel
theorem dX4_add_54 : decode cX4_add 54 = .ok (.iadd, 1) := by decide +kernel
theorem dX4_add_55 : decode cX4_add 55 = .ok (.putfield 25, 3) := by decide +kernel
theorem dX4_add_58 : decode cX4_add 58 = .ok (.aload_n 1, 1) := by decide +kernel
theorem dX4_add_59 : decode cX4_add 59 = .ok (.iconst 0, 1) := by decide +kernel
theorem dX4_add_60 : decode cX4_add 60 = .ok (.iaload, 1) := by decide +kernel
theorem dX4_add_61 : decode cX4_add 61 = .ok (.bipush 103, 2) := by decide +kernel
theorem dX4_add_63 : decode cX4_add 63 = .ok (.if_icmp .ne 34, 3) := by decide +kernel
theorem dX4_add_66 : decode cX4_add 66 = .ok (.aload_n 0, 1) := by decide +kernel
theorem dX4_add_67 : decode cX4_add 67 = .ok (.getfield 28, 3) := by decide +kernel
theorem dX4_add_70 : decode cX4_add 70 = .ok (.iconst 4, 1) := by decide +kernel
theorem dX4_add_71 : decode cX4_add 71 = .ok (.if_icmp .ge 26, 3) := by decide +kernel
theorem dX4_add_74 : decode cX4_add 74 = .ok (.aload_n 0, 1) := by decide +kernel
theorem dX4_add_75 : decode cX4_add 75 = .ok (.getfield 18, 3) := by decide +kernel
theorem dX4_add_78 : decode cX4_add 78 = .ok (.aload_n 0, 1) := by decide +kernel
theorem dX4_add_79 : decode cX4_add 79 = .ok (.getfield 28, 3) := by decide +kernel
theorem dX4_add_82 : decode cX4_add 82 = .ok (.aload_n 0, 1) := by decide +kernel
theorem dX4_add_83 : decode cX4_add 83 = .ok (.getfield 21, 3) := by decide +kernel
theorem dX4_add_86 : decode cX4_add 86 = .ok (.iastore, 1) := by decide +kernel
theorem dX4_add_87 : decode cX4_add 87 = .ok (.aload_n 0, 1) := by decide +kernel
theorem dX4_add_88 : decode cX4_add 88 = .ok (.dup, 1) := by decide +kernel
theorem dX4_add_89 : decode cX4_add 89 = .ok (.getfield 28, 3) := by decide +kernel
theorem dX4_add_92 : decode cX4_add 92 = .ok (.iconst 1, 1) := by decide +kernel
theorem dX4_add_93 : decode cX4_add 93 = .ok (.iadd, 1) := by decide +kernel
theorem dX4_add_94 : decode cX4_add 94 = .ok (.putfield 28, 3) := by decide +kernel
theorem dX4_add_97 : decode cX4_add 97 = .ok (.aload_n 0, 1) := by decide +kernel
theorem dX4_add_98 : decode cX4_add 98 = .ok (.dup, 1) := by decide +kernel
theorem dX4_add_99 : decode cX4_add 99 = .ok (.getfield 21, 3) := by decide +kernel
theorem dX4_add_102 : decode cX4_add 102 = .ok (.iconst 1, 1) := by decide +kernel
theorem dX4_add_103 : decode cX4_add 103 = .ok (.iadd, 1) := by decide +kernel
theorem dX4_add_104 : decode cX4_add 104 = .ok (.putfield 21, 3) := by decide +kernel
theorem dX4_add_107 : decode cX4_add 107 = .ok (.return_, 1) := by decide +kernel
theorem dX4_mayFollow_0 : decode cX4_mayFollow 0 = .ok (.aload_n 1, 1) := by decide +kernel
theorem dX4_mayFollow_1 : decode cX4_mayFollow 1 = .ok (.iconst 0, 1) := by decide +kernel
theorem dX4_mayFollow_2 : decode cX4_mayFollow 2 = .ok (.iaload, 1) := by decide +kernel
theorem dX4_mayFollow_3 : decode cX4_mayFollow 3 = .ok (.bipush 115, 2) := by decide +kernel
theorem dX4_mayFollow_5 : decode cX4_mayFollow 5 = .ok (.if_icmp .ne 26, 3) := by decide +kernel
theorem dX4_mayFollow_8 : decode cX4_mayFollow 8 = .ok (.aload_n 1, 1) := by decide +kernel
theorem dX4_mayFollow_9 : decode cX4_mayFollow 9 = .ok (.invokestatic 62, 3) := by decide +kernel
theorem dX4_mayFollow_12 : decode cX4_mayFollow 12 = .ok (.ifCond .eq 17, 3) := by decide +kernel
theorem dX4_mayFollow_15 : decode cX4_mayFollow 15 = .ok (.aload_n 0, 1) := by decide +kernel
theorem dX4_mayFollow_16 : decode cX4_mayFollow 16 = .ok (.aload_n 1, 1) := by decide +kernel
theorem dX4_mayFollow_17 : decode cX4_mayFollow 17 = .ok (.iconst 1, 1) := by decide +kernel
theorem dX4_mayFollow_18 : decode cX4_mayFollow 18 = .ok (.iaload, 1) := by decide +kernel
theorem dX4_mayFollow_19 : decode cX4_mayFollow 19 = .ok (.invokevirtual 66, 3) := by decide +kernel
theorem dX4_mayFollow_22 : decode cX4_mayFollow 22 = .ok (.ifCond .ne 7, 3) := by decide +kernel
theorem dX4_mayFollow_25 : decode cX4_mayFollow 25 = .ok (.iconst 1, 1) := by decide +kernel
theorem dX4_mayFollow_26 : decode cX4_mayFollow 26 = .ok (.goto 4, 3) := by decide +kernel
theorem dX4_mayFollow_29 : decode cX4_mayFollow 29 = .ok (.iconst 0, 1) := by decide +kernel
theorem dX4_mayFollow_30 : decode cX4_mayFollow 30 = .ok (.ireturn, 1) := by decide +kernel
theorem dX4_mayFollow_31 : decode cX4_mayFollow 31 = .ok (.aload_n 1, 1) := by decide +kernel
theorem dX4_mayFollow_32 : decode cX4_mayFollow 32 = .ok (.invokestatic 62, 3) := by decide +kernel
theorem dX4_mayFollow_35 : decode cX4_mayFollow 35 = .ok (.ifCond .eq 35, 3) := by decide +kernel
theorem dX4_mayFollow_38 : decode cX4_mayFollow 38 = .ok (.aload_n 0, 1) := by decide +kernel
theorem dX4_mayFollow_39 : decode cX4_mayFollow 39 = .ok (.aload_n 1, 1) := by decide +kernel
theorem dX4_mayFollow_40 : decode cX4_mayFollow 40 = .ok (.aload_n 0, 1) := by decide +kernel
theorem dX4_mayFollow_41 : decode cX4_mayFollow 41 = .ok (.getfield 21, 3) := by decide +kernel
theorem dX4_mayFollow_44 : decode cX4_mayFollow 44 = .ok (.invokevirtual 69, 3) := by decide +kernel
theorem dX4_mayFollow_47 : decode cX4_mayFollow 47 = .ok (.ifCond .eq 23, 3) := by decide +kernel
theorem dX4_mayFollow_50 : decode cX4_mayFollow 50 = .ok (.aload_n 1, 1) := by decide +kernel
theorem dX4_mayFollow_51 : decode cX4_mayFollow 51 = .ok (.iconst 0, 1) := by decide +kernel
theorem dX4_mayFollow_52 : decode cX4_mayFollow 52 = .ok (.iaload, 1) := by decide +kernel
theorem dX4_mayFollow_53 : decode cX4_mayFollow 53 = .ok (.bipush 103, 2) := by decide +kernel
theorem dX4_mayFollow_55 : decode cX4_mayFollow 55 = .ok (.if_icmp .ne 11, 3) := by decide +kernel
theorem dX4_mayFollow_58 : decode cX4_mayFollow 58 = .ok (.aload_n 0, 1) := by decide +kernel
theorem dX4_mayFollow_59 : decode cX4_mayFollow 59 = .ok (.getfield 28, 3) := by decide +kernel
theorem dX4_mayFollow_62 : decode cX4_mayFollow 62 = .ok (.iconst 4, 1) := by decide +kernel
theorem dX4_mayFollow_63 : decode cX4_mayFollow 63 = .ok (.if_icmp .ge 7, 3) := by decide +kernel
theorem dX4_mayFollow_66 : decode cX4_mayFollow 66 = .ok (.iconst 1, 1) := by decide +kernel
theorem dX4_mayFollow_67 : decode cX4_mayFollow 67 = .ok (.goto 4, 3) := by decide +kernel
theorem dX4_mayFollow_70 : decode cX4_mayFollow 70 = .ok (.iconst 0, 1) := by decide +kernel
theorem dX4_mayFollow_71 : decode cX4_mayFollow 71 = .ok (.ireturn, 1) := by decide +kernel
theorem dX4_areNumbersAsTold_0 : decode cX4_areNumbersAsTold 0 = .ok (.aload_n 0, 1) := by decide +kernel
theorem dX4_areNumbersAsTold_1 : decode cX4_areNumbersAsTold 1 = .ok (.iconst 0, 1) := by decide +kernel
theorem dX4_areNumbersAsTold_2 : decode cX4_areNumbersAsTold 2 = .ok (.iaload, 1) := by decide +kernel
theorem dX4_areNumbersAsTold_3 : decode cX4_areNumbersAsTold 3 = .ok (.aload_n 0, 1) := by decide +kernel
theorem dX4_areNumbersAsTold_4 : decode cX4_areNumbersAsTold 4 = .ok (.iconst 3, 1) := by decide +kernel
theorem dX4_areNumbersAsTold_5 : decode cX4_areNumbersAsTold 5 = .ok (.iaload, 1) := by decide +kernel
theorem dX4_areNumbersAsTold_6 : decode cX4_areNumbersAsTold 6 = .ok (.aload_n 0, 1) := by decide +kernel
theorem dX4_areNumbersAsTold_7 : decode cX4_areNumbersAsTold 7 = .ok (.iconst 4, 1) := by decide +kernel
theorem dX4_areNumbersAsTold_8 : decode cX4_areNumbersAsTold 8 = .ok (.iaload, 1) := by decide +kernel
theorem dX4_areNumbersAsTold_9 : decode cX4_areNumbersAsTold 9 = .ok (.aload_n 0, 1) := by decide +kernel
theorem dX4_areNumbersAsTold_10 : decode cX4_areNumbersAsTold 10 = .ok (.iconst 5, 1) := by decide +kernel
theorem dX4_areNumbersAsTold_11 : decode cX4_areNumbersAsTold 11 = .ok (.iaload, 1) := by decide +kernel
theorem dX4_areNumbersAsTold_12 : decode cX4_areNumbersAsTold 12 = .ok (.invokestatic 77, 3) := by decide +kernel
theorem dX4_areNumbersAsTold_15 : decode cX4_areNumbersAsTold 15 = .ok (.ireturn, 1) := by decide +kernel
theorem dX4_areNamesAhead_0 : decode cX4_areNamesAhead 0 = .ok (.aload_n 1, 1) := by decide +kernel
theorem dX4_areNamesAhead_1 : decode cX4_areNamesAhead 1 = .ok (.iconst 1, 1) := by decide +kernel
theorem dX4_areNamesAhead_2 : decode cX4_areNamesAhead 2 = .ok (.iaload, 1) := by decide +kernel
theorem dX4_areNamesAhead_3 : decode cX4_areNamesAhead 3 = .ok (.istore_n 3, 1) := by decide +kernel
theorem dX4_areNamesAhead_4 : decode cX4_areNamesAhead 4 = .ok (.aload_n 1, 1) := by decide +kernel
theorem dX4_areNamesAhead_5 : decode cX4_areNamesAhead 5 = .ok (.iconst 2, 1) := by decide +kernel
theorem dX4_areNamesAhead_6 : decode cX4_areNamesAhead 6 = .ok (.iaload, 1) := by decide +kernel
theorem dX4_areNamesAhead_7 : decode cX4_areNamesAhead 7 = .ok (.istore 4, 2) := by decide +kernel
theorem dX4_areNamesAhead_9 : decode cX4_areNamesAhead 9 = .ok (.aload_n 0, 1) := by decide +kernel
theorem dX4_areNamesAhead_10 : decode cX4_areNamesAhead 10 = .ok (.iload_n 3, 1) := by decide +kernel
theorem dX4_areNamesAhead_11 : decode cX4_areNamesAhead 11 = .ok (.iload_n 2, 1) := by decide +kernel
theorem dX4_areNamesAhead_12 : decode cX4_areNamesAhead 12 = .ok (.invokevirtual 82, 3) := by decide +kernel
theorem dX4_areNamesAhead_15 : decode cX4_areNamesAhead 15 = .ok (.ifCond .eq 30, 3) := by decide +kernel
theorem dX4_areNamesAhead_18 : decode cX4_areNamesAhead 18 = .ok (.iload 4, 2) := by decide +kernel
theorem dX4_areNamesAhead_20 : decode cX4_areNamesAhead 20 = .ok (.bipush (-4), 2) := by decide +kernel
theorem dX4_areNamesAhead_22 : decode cX4_areNamesAhead 22 = .ok (.if_icmp .eq 19, 3) := by decide +kernel
theorem dX4_areNamesAhead_25 : decode cX4_areNamesAhead 25 = .ok (.iload 4, 2) := by decide +kernel
theorem dX4_areNamesAhead_27 : decode cX4_areNamesAhead 27 = .ok (.iload_n 3, 1) := by decide +kernel
theorem dX4_areNamesAhead_28 : decode cX4_areNamesAhead 28 = .ok (.if_icmp .eq 17, 3) := by decide +kernel
theorem dX4_areNamesAhead_31 : decode cX4_areNamesAhead 31 = .ok (.aload_n 0, 1) := by decide +kernel
theorem dX4_areNamesAhead_32 : decode cX4_areNamesAhead 32 = .ok (.iload 4, 2) := by decide +kernel
theorem dX4_areNamesAhead_34 : decode cX4_areNamesAhead 34 = .ok (.iload_n 2, 1) := by decide +kernel
theorem dX4_areNamesAhead_35 : decode cX4_areNamesAhead 35 = .ok (.invokevirtual 82, 3) := by decide +kernel
theorem dX4_areNamesAhead_38 : decode cX4_areNamesAhead 38 = .ok (.ifCond .eq 7, 3) := by decide +kernel
theorem dX4_areNamesAhead_41 : decode cX4_areNamesAhead 41 = .ok (.iconst 1, 1) := by decide +kernel
theorem dX4_areNamesAhead_42 : decode cX4_areNamesAhead 42 = .ok (.goto 4, 3) := by decide +kernel
theorem dX4_areNamesAhead_45 : decode cX4_areNamesAhead 45 = .ok (.iconst 0, 1) := by decide +kernel
theorem dX4_areNamesAhead_46 : decode cX4_areNamesAhead 46 = .ok (.ireturn, 1) := by decide +kernel
theorem dX4_isStoreAhead_0 : decode cX4_isStoreAhead 0 = .ok (.aload_n 0, 1) := by decide +kernel
theorem dX4_isStoreAhead_1 : decode cX4_isStoreAhead 1 = .ok (.iload_n 1, 1) := by decide +kernel
theorem dX4_isStoreAhead_2 : decode cX4_isStoreAhead 2 = .ok (.invokevirtual 66, 3) := by decide +kernel
theorem dX4_isStoreAhead_5 : decode cX4_isStoreAhead 5 = .ok (.ifCond .eq 17, 3) := by decide +kernel
theorem dX4_isStoreAhead_8 : decode cX4_isStoreAhead 8 = .ok (.aload_n 0, 1) := by decide +kernel
theorem dX4_isStoreAhead_9 : decode cX4_isStoreAhead 9 = .ok (.getfield 15, 3) := by decide +kernel
theorem dX4_isStoreAhead_12 : decode cX4_isStoreAhead 12 = .ok (.iload_n 1, 1) := by decide +kernel
theorem dX4_isStoreAhead_13 : decode cX4_isStoreAhead 13 = .ok (.iaload, 1) := by decide +kernel
theorem dX4_isStoreAhead_14 : decode cX4_isStoreAhead 14 = .ok (.iload_n 2, 1) := by decide +kernel
theorem dX4_isStoreAhead_15 : decode cX4_isStoreAhead 15 = .ok (.if_icmp .ge 7, 3) := by decide +kernel
theorem dX4_isStoreAhead_18 : decode cX4_isStoreAhead 18 = .ok (.iconst 1, 1) := by decide +kernel
theorem dX4_isStoreAhead_19 : decode cX4_isStoreAhead 19 = .ok (.goto 4, 3) := by decide +kernel
theorem dX4_isStoreAhead_22 : decode cX4_isStoreAhead 22 = .ok (.iconst 0, 1) := by decide +kernel
theorem dX4_isStoreAhead_23 : decode cX4_isStoreAhead 23 = .ok (.ireturn, 1) := by decide +kernel
theorem dX4_hasStore_0 : decode cX4_hasStore 0 = .ok (.iload_n 1, 1) := by decide +kernel
theorem dX4_hasStore_1 : decode cX4_hasStore 1 = .ok (.ifCond .lt 24, 3) := by decide +kernel
theorem dX4_hasStore_4 : decode cX4_hasStore 4 = .ok (.iload_n 1, 1) := by decide +kernel
theorem dX4_hasStore_5 : decode cX4_hasStore 5 = .ok (.bipush 16, 2) := by decide +kernel
theorem dX4_hasStore_7 : decode cX4_hasStore 7 = .ok (.if_icmp .ge 18, 3) := by decide +kernel
theorem dX4_hasStore_10 : decode cX4_hasStore 10 = .ok (.aload_n 0, 1) := by decide +kernel
theorem dX4_hasStore_11 : decode cX4_hasStore 11 = .ok (.getfield 15, 3) := by decide +kernel
theorem dX4_hasStore_14 : decode cX4_hasStore 14 = .ok (.iload_n 1, 1) := by decide +kernel
theorem dX4_hasStore_15 : decode cX4_hasStore 15 = .ok (.iaload, 1) := by decide +kernel
theorem dX4_hasStore_16 : decode cX4_hasStore 16 = .ok (.bipush (-4), 2) := by decide +kernel
theorem dX4_hasStore_18 : decode cX4_hasStore 18 = .ok (.if_icmp .eq 7, 3) := by decide +kernel
theorem dX4_hasStore_21 : decode cX4_hasStore 21 = .ok (.iconst 1, 1) := by decide +kernel
theorem dX4_hasStore_22 : decode cX4_hasStore 22 = .ok (.goto 4, 3) := by decide +kernel
theorem dX4_hasStore_25 : decode cX4_hasStore 25 = .ok (.iconst 0, 1) := by decide +kernel
theorem dX4_hasStore_26 : decode cX4_hasStore 26 = .ok (.ireturn, 1) := by decide +kernel
def uvX4_hasStore : List Cond := .code yX4_hasStore cX4_hasStore 2 (some .boolean) :: ([.fieldLink RX4 15 "RiverModel$Model" "storeItems" "[I"] ++ wsX40)
set_option maxHeartbeats 4000000 in
set_option maxRecDepth 100000 in
theorem v_X4_hasStore (l : Launch) (D : va_G) (t : Nat → Nat) (cI cL cC : ClassId) (gC : Int32) (gP : Int32) (gT : Nat → Int32) (gR : Nat → Int32) (gm : Int32) (gs : Int32) (gg : Int32) (gL : Nat → Int32) (gQ : Nat → Int32) (gZ : Nat → Int32) (gE : Int32) (gV : Nat → Int32) (gU : Nat → Int32) (gN : Nat → Int32) (a0 : Nat) (a1 : Int32) (uq : ∀ b c : Nat, t b = t c → t b ≠ 0 → b = c) (k_a0 : t a0 = 3) : tM l yX4_hasStore uvX4_hasStore 0 0 D (rF cI cL cC gC gP gT gR gm gs gg gL gQ gZ gE gV gU gN) (rF cI cL cC gC gP gT gR gm gs gg gL gQ gZ gE gV gU gN) t cI cL cC [.ref a0, .int a1] wr0 (pI (fun r => (r = 1 ∧ hsQ gQ a1.toInt) ∨ (r = 0 ∧ ¬ hsQ gQ a1.toInt))) := by
  refine tM.ofW (cc := cX4_hasStore) (maxL := 2) (ret := (some .boolean)) (by decide) rfl (Nat.le_of_ble_eq_true rfl) ?_
  intro p e s m below meth c hx hb hr hml hown hts hlk H locs hG hK hE hS ls hl
  have hl : lv_has ls 2 [(0, .ref a0), (1, .int a1)] := hl
  have in4 : ∀ w ∈ wsX40, w ∈ uvX4_hasStore := fun w h => List.mem_cons_of_mem _ (List.mem_append_right _ h)
  refine lv_iload_n hx hb dX4_hasStore_0 rfl (lv_at hl 1 rfl) ?_
  refine lv_if_lt (tgt := 25) hx hb dX4_hasStore_1 (by decide) (fun c_1 => ?_) (fun c_1 => ?_)
  · skip
    have c_1 : a1.toInt < 0 := q_lt c_1
    refine lv_iconst (v := 0) hx hb dX4_hasStore_25 (by decide) ?_
    have zi_0 : (0 : Int32).toInt = 0 := by decide
    exact ty_zret hx hb hr hlk rfl hG hS (Or.inr ⟨rfl, (by show ¬ hsQ gQ a1.toInt; exact fun ⟨h1, h2, h3⟩ => by omega)⟩) dX4_hasStore_26
  · skip
    have c_1 : 0 ≤ a1.toInt := q_nlt c_1
    refine lv_iload_n hx hb dX4_hasStore_4 rfl (lv_at hl 1 rfl) ?_
    refine lv_bipush (v := 16) hx hb dX4_hasStore_5 (by decide) ?_
    refine lv_icmp_ge (tgt := 25) hx hb dX4_hasStore_7 (by decide) (fun c_2 => ?_) (fun c_2 => ?_)
    · skip
      have c_2 : 16 ≤ a1.toInt := q_le c_2
      refine lv_pc (pc2 := 25) rfl ?_
      refine lv_iconst (v := 0) hx hb dX4_hasStore_25 (by decide) ?_
      have zi_0 : (0 : Int32).toInt = 0 := by decide
      exact ty_zret hx hb hr hlk rfl hG hS (Or.inr ⟨rfl, (by show ¬ hsQ gQ a1.toInt; exact fun ⟨h1, h2, h3⟩ => by omega)⟩) dX4_hasStore_26
    · skip
      have c_2 : a1.toInt < 16 := q_nle c_2
      refine lv_aload_n hx hb dX4_hasStore_10 rfl (lv_at hl 0 rfl) ?_
      obtain ⟨r_3, r_5, r_7, at_9, h_4, h_6, h_8⟩ := rF_o3 hG k_a0
      refine va_get (D := D) (ci := 3) (v := .ref r_5) (C := RX4) (T := TX4) (N := 6) hx hb hts in4 hown hK (va_one at_9) 0 rfl rfl 1 (by decide) (hts (.fieldLink RX4 15 "RiverModel$Model" "storeItems" "[I") (List.mem_of_getElem? (i := 1) rfl)) (fun _ h9 => h9) rfl dX4_hasStore_11 ?_
      refine lv_iload_n hx hb dX4_hasStore_14 rfl (lv_at hl 1 rfl) ?_
      have at_10 := rF_o13 hG h_6
      have b_11 : vp_in a1 16 := (q_in (by omega) (by omega))
      refine va_iald hx hb hK (va_one at_10) 0 0 rfl rfl b_11 dX4_hasStore_15 ?_
      refine lv_topi (fun x_12 e_13 => ?_)
      have w_x_12 : x_12 = gQ (a1.toInt).toNat := by rw [e_13]; exact congrArg (fun q : Int => gQ q.toNat) (show a1.toInt = a1.toInt by omega)
      have i_x_12 : x_12.toInt = (gQ (a1.toInt).toNat).toInt := by rw [w_x_12]
      refine lv_bipush (v := (-4)) hx hb dX4_hasStore_16 (by decide) ?_
      refine lv_icmp_eq (tgt := 25) hx hb dX4_hasStore_18 (by decide) (fun c_14 => ?_) (fun c_14 => ?_)
      · skip
        have c_14 : x_12.toInt = (-4) := q_eq c_14
        refine lv_pc (pc2 := 25) rfl ?_
        refine lv_iconst (v := 0) hx hb dX4_hasStore_25 (by decide) ?_
        have zi_0 : (0 : Int32).toInt = 0 := by decide
        exact ty_zret hx hb hr hlk rfl hG hS (Or.inr ⟨rfl, (by show ¬ hsQ gQ a1.toInt; exact fun ⟨h1, h2, h3⟩ => by omega)⟩) dX4_hasStore_26
      · skip
        have c_14 : x_12.toInt ≠ (-4) := q_ne c_14
        refine lv_iconst (v := 1) hx hb dX4_hasStore_21 (by decide) ?_
        refine lv_goto (tgt := 26) hx hb dX4_hasStore_22 (by decide) ?_
        have zi_1 : (1 : Int32).toInt = 1 := by decide
        exact ty_zret hx hb hr hlk rfl hG hS (Or.inl ⟨rfl, (by show hsQ gQ a1.toInt; exact ⟨by omega, by omega, by omega⟩)⟩) dX4_hasStore_26

def uvX4_isStoreAhead : List Cond := .code yX4_isStoreAhead cX4_isStoreAhead 3 (some .boolean) :: ([.methodLink RX4 66 yX4_hasStore, .instanceMethod yX4_hasStore, .selects RX4 yX4_hasStore yX4_hasStore, .initialized RX4, .fieldLink RX4 15 "RiverModel$Model" "storeItems" "[I", .code yX4_hasStore cX4_hasStore 2 (some .boolean)] ++ wsX40)
set_option maxRecDepth 20000 in
theorem gu_vX4_isStoreAhead_vX4_hasStore_66 : GoodIn uvX4_isStoreAhead (wsV RX4 66 RX4 yX4_hasStore uvX4_hasStore) := goodIn_r _ [1, 2, 3, 4, 6, 5, 7, 8, 9, 10, 11, 12] rfl (by decide +kernel)
set_option maxHeartbeats 4000000 in
set_option maxRecDepth 100000 in
theorem v_X4_isStoreAhead (l : Launch) (D : va_G) (t : Nat → Nat) (cI cL cC : ClassId) (gC : Int32) (gP : Int32) (gT : Nat → Int32) (gR : Nat → Int32) (gm : Int32) (gs : Int32) (gg : Int32) (gL : Nat → Int32) (gQ : Nat → Int32) (gZ : Nat → Int32) (gE : Int32) (gV : Nat → Int32) (gU : Nat → Int32) (gN : Nat → Int32) (a0 : Nat) (a1 : Int32) (a2 : Int32) (uq : ∀ b c : Nat, t b = t c → t b ≠ 0 → b = c) (k_a0 : t a0 = 3) : tM l yX4_isStoreAhead uvX4_isStoreAhead 1 21 D (rF cI cL cC gC gP gT gR gm gs gg gL gQ gZ gE gV gU gN) (rF cI cL cC gC gP gT gR gm gs gg gL gQ gZ gE gV gU gN) t cI cL cC [.ref a0, .int a1, .int a2] wr0 (pI (fun r => (r = 1 ∧ stA gQ a1.toInt a2.toInt) ∨ (r = 0 ∧ ¬ stA gQ a1.toInt a2.toInt))) := by
  refine tM.ofW (cc := cX4_isStoreAhead) (maxL := 3) (ret := (some .boolean)) (by decide) rfl (Nat.le_of_ble_eq_true rfl) ?_
  intro p e s m below meth c hx hb hr hml hown hts hlk H locs hG hK hE hS ls hl
  have hl : lv_has ls 3 [(0, .ref a0), (1, .int a1), (2, .int a2)] := hl
  have in4 : ∀ w ∈ wsX40, w ∈ uvX4_isStoreAhead := fun w h => List.mem_cons_of_mem _ (List.mem_append_right _ h)
  refine lv_aload_n hx hb dX4_isStoreAhead_0 rfl (lv_at hl 0 rfl) ?_
  refine lv_iload_n hx hb dX4_isStoreAhead_1 rfl (lv_at hl 1 rfl) ?_
  obtain ⟨r_1, r_3, r_5, at_7, h_2, h_4, h_6⟩ := rF_o3 hG k_a0
  refine ty_calli (W.runV (As := [.int a1]) (rest := []) ⟨hx, hb, hml, hown, hts⟩ (v_X4_hasStore l D t cI cL cC gC gP gT gR gm gs gg gL gQ gZ gE gV gU gN a0 a1  uq  k_a0) (cwV 1 hts gu_vX4_isStoreAhead_vX4_hasStore_66 rfl rfl rfl (by decide +kernel) ⟨Nat.le_of_ble_eq_true rfl, Nat.le_of_ble_eq_true rfl⟩) (tP_V hG hE at_7 rfl) rfl rfl hl.1 rfl (lv_room (Nat.le_of_ble_eq_true rfl)) dX4_isStoreAhead_2 ⟨Nat.le_of_ble_eq_true rfl, Nat.le_of_ble_eq_true rfl⟩) hS (fun _ h => h) (fun r_8 H locs hp_9 hG hS o_10 => ?_)
  have at_7 := va_at.keptC at_7 o_10 k_a0 rfl
  have hp_9 : (r_8 = 1 ∧ hsQ gQ a1.toInt) ∨ (r_8 = 0 ∧ ¬ hsQ gQ a1.toInt) := hp_9
  rcases hp_9 with ⟨rfl, p_12⟩ | ⟨rfl, p_13⟩
  · skip
    obtain ⟨hq0, hq1, hq2⟩ := id p_12
    refine lv_if_eq (tgt := 22) hx hb dX4_isStoreAhead_5 (by decide) (fun q => absurd q (by decide)) (fun _ => ?_)
    refine lv_aload_n hx hb dX4_isStoreAhead_8 rfl (lv_at hl 0 rfl) ?_
    refine va_get (D := D) (ci := 3) (v := .ref r_3) (C := RX4) (T := TX4) (N := 6) hx hb hts in4 hown hK (va_one at_7) 0 rfl rfl 1 (by decide) (hts (.fieldLink RX4 15 "RiverModel$Model" "storeItems" "[I") (List.mem_of_getElem? (i := 5) rfl)) (fun _ h9 => h9) rfl dX4_isStoreAhead_9 ?_
    refine lv_iload_n hx hb dX4_isStoreAhead_12 rfl (lv_at hl 1 rfl) ?_
    refine lv_pc (pc2 := 13) rfl ?_
    have at_14 := rF_o13 hG h_4
    have b_15 : vp_in a1 16 := (q_in (by omega) (by omega))
    refine va_iald hx hb hK (va_one at_14) 0 0 rfl rfl b_15 dX4_isStoreAhead_13 ?_
    refine lv_topi (fun x_16 e_17 => ?_)
    have w_x_16 : x_16 = gQ (a1.toInt).toNat := by rw [e_17]; exact congrArg (fun q : Int => gQ q.toNat) (show a1.toInt = a1.toInt by omega)
    have i_x_16 : x_16.toInt = (gQ (a1.toInt).toNat).toInt := by rw [w_x_16]
    refine lv_iload_n hx hb dX4_isStoreAhead_14 rfl (lv_at hl 2 rfl) ?_
    refine lv_icmp_ge (tgt := 22) hx hb dX4_isStoreAhead_15 (by decide) (fun c_18 => ?_) (fun c_18 => ?_)
    · skip
      have c_18 : a2.toInt ≤ x_16.toInt := q_le c_18
      refine lv_iconst (v := 0) hx hb dX4_isStoreAhead_22 (by decide) ?_
      have zi_0 : (0 : Int32).toInt = 0 := by decide
      exact ty_zret hx hb hr hlk rfl hG hS (Or.inr ⟨rfl, (by show ¬ stA gQ a1.toInt a2.toInt; exact fun ⟨h1, h2⟩ => by omega)⟩) dX4_isStoreAhead_23
    · skip
      have c_18 : x_16.toInt < a2.toInt := q_nle c_18
      refine lv_iconst (v := 1) hx hb dX4_isStoreAhead_18 (by decide) ?_
      refine lv_goto (tgt := 23) hx hb dX4_isStoreAhead_19 (by decide) ?_
      have zi_1 : (1 : Int32).toInt = 1 := by decide
      exact ty_zret hx hb hr hlk rfl hG hS (Or.inl ⟨rfl, (by show stA gQ a1.toInt a2.toInt; exact ⟨p_12, by omega⟩)⟩) dX4_isStoreAhead_23
  · skip
    refine lv_pc (pc2 := 5) rfl ?_
    refine lv_if_eq (tgt := 22) hx hb dX4_isStoreAhead_5 (by decide) (fun _ => ?_) (fun q => absurd (by decide) q)
    refine lv_iconst (v := 0) hx hb dX4_isStoreAhead_22 (by decide) ?_
    have zi_0 : (0 : Int32).toInt = 0 := by decide
    exact ty_zret hx hb hr hlk rfl hG hS (Or.inr ⟨rfl, (by show ¬ stA gQ a1.toInt a2.toInt; exact fun ⟨h1, h2⟩ => absurd h1 p_13)⟩) dX4_isStoreAhead_23

def uvX4_areNamesAhead : List Cond := .code yX4_areNamesAhead cX4_areNamesAhead 5 (some .boolean) :: ([.methodLink RX4 82 yX4_isStoreAhead, .instanceMethod yX4_isStoreAhead, .selects RX4 yX4_isStoreAhead yX4_isStoreAhead, .initialized RX4, .code yX4_isStoreAhead cX4_isStoreAhead 3 (some .boolean), .methodLink RX4 66 yX4_hasStore, .instanceMethod yX4_hasStore, .selects RX4 yX4_hasStore yX4_hasStore, .fieldLink RX4 15 "RiverModel$Model" "storeItems" "[I", .code yX4_hasStore cX4_hasStore 2 (some .boolean)] ++ wsX40)
set_option maxRecDepth 20000 in
theorem gu_vX4_areNamesAhead_vX4_isStoreAhead_82 : GoodIn uvX4_areNamesAhead (wsV RX4 82 RX4 yX4_isStoreAhead uvX4_isStoreAhead) := goodIn_r _ [1, 2, 3, 4, 5, 6, 7, 8, 4, 9, 10, 11, 12, 13, 14, 15, 16] rfl (by decide +kernel)
set_option maxHeartbeats 4000000 in
set_option maxRecDepth 100000 in
theorem v_X4_areNamesAhead (l : Launch) (D : va_G) (t : Nat → Nat) (cI cL cC : ClassId) (gC : Int32) (gP : Int32) (gT : Nat → Int32) (gR : Nat → Int32) (gm : Int32) (gs : Int32) (gg : Int32) (gL : Nat → Int32) (gQ : Nat → Int32) (gZ : Nat → Int32) (gE : Int32) (gV : Nat → Int32) (gU : Nat → Int32) (gN : Nat → Int32) (a0 : Nat) (a1 : Nat) (a2 : Int32) (uq : ∀ b c : Nat, t b = t c → t b ≠ 0 → b = c) (k_a0 : t a0 = 3) (k_a1 : t a1 = 11) : tM l yX4_areNamesAhead uvX4_areNamesAhead 2 43 D (rF cI cL cC gC gP gT gR gm gs gg gL gQ gZ gE gV gU gN) (rF cI cL cC gC gP gT gR gm gs gg gL gQ gZ gE gV gU gN) t cI cL cC [.ref a0, .ref a1, .int a2] wr0 (pI (fun r => (r = 1 ∧ nmA gQ gR a2.toInt) ∨ (r = 0 ∧ ¬ nmA gQ gR a2.toInt))) := by
  refine tM.ofW (cc := cX4_areNamesAhead) (maxL := 5) (ret := (some .boolean)) (by decide) rfl (Nat.le_of_ble_eq_true rfl) ?_
  intro p e s m below meth c hx hb hr hml hown hts hlk H locs hG hK hE hS ls hl
  have hl : lv_has ls 5 [(0, .ref a0), (1, .ref a1), (2, .int a2)] := hl
  skip
  refine lv_aload_n hx hb dX4_areNamesAhead_0 rfl (lv_at hl 1 rfl) ?_
  refine lv_iconst (v := 1) hx hb dX4_areNamesAhead_1 (by decide) ?_
  have at_1 := rF_o11 hG k_a1
  have b_2 : vp_in 1 6 := (q_in (by decide) (by decide))
  refine va_iald hx hb hK (va_one at_1) 0 0 rfl rfl b_2 dX4_areNamesAhead_2 ?_
  refine lv_topi (fun x_3 e_4 => ?_)
  have w_x_3 : x_3 = gR 1 := by rw [e_4]; rfl
  have i_x_3 : x_3.toInt = (gR 1).toInt := by rw [w_x_3]
  refine lv_istore_n (lv' := [(3, .int x_3), (0, .ref a0), (1, .ref a1), (2, .int a2)]) hx hb dX4_areNamesAhead_3 rfl hl (by decide) rfl (fun ls hl => ?_)
  refine lv_aload_n hx hb dX4_areNamesAhead_4 rfl (lv_at hl 2 rfl) ?_
  refine lv_iconst (v := 2) hx hb dX4_areNamesAhead_5 (by decide) ?_
  have b_5 : vp_in 2 6 := (q_in (by decide) (by decide))
  refine va_iald hx hb hK (va_one at_1) 0 0 rfl rfl b_5 dX4_areNamesAhead_6 ?_
  refine lv_topi (fun x_6 e_7 => ?_)
  have w_x_6 : x_6 = gR 2 := by rw [e_7]; rfl
  have i_x_6 : x_6.toInt = (gR 2).toInt := by rw [w_x_6]
  refine lv_pc (pc2 := 7) rfl ?_
  refine lv_istore (lv' := [(4, .int x_6), (3, .int x_3), (0, .ref a0), (1, .ref a1), (2, .int a2)]) hx hb dX4_areNamesAhead_7 hl (by decide) rfl (fun ls hl => ?_)
  refine lv_aload_n hx hb dX4_areNamesAhead_9 rfl (lv_at hl 2 rfl) ?_
  refine lv_iload_n hx hb dX4_areNamesAhead_10 rfl (lv_at hl 1 rfl) ?_
  refine lv_iload_n hx hb dX4_areNamesAhead_11 rfl (lv_at hl 4 rfl) ?_
  obtain ⟨r_8, r_10, r_12, at_14, h_9, h_11, h_13⟩ := rF_o3 hG k_a0
  refine ty_calli (W.runV (As := [.int x_3, .int a2]) (rest := []) ⟨hx, hb, hml, hown, hts⟩ (v_X4_isStoreAhead l D t cI cL cC gC gP gT gR gm gs gg gL gQ gZ gE gV gU gN a0 x_3 a2  uq  k_a0) (cwV 2 hts gu_vX4_areNamesAhead_vX4_isStoreAhead_82 rfl rfl rfl (by decide +kernel) ⟨Nat.le_of_ble_eq_true rfl, Nat.le_of_ble_eq_true rfl⟩) (tP_V hG hE at_14 rfl) rfl rfl hl.1 rfl (lv_room (Nat.le_of_ble_eq_true rfl)) dX4_areNamesAhead_12 ⟨Nat.le_of_ble_eq_true rfl, Nat.le_of_ble_eq_true rfl⟩) hS (fun _ h => h) (fun r_15 H locs hp_16 hG hS o_17 => ?_)
  have at_1 := va_at.keptC at_1 o_17 k_a1 rfl
  have at_14 := va_at.keptC at_14 o_17 k_a0 rfl
  have hp_16 : (r_15 = 1 ∧ stA gQ x_3.toInt a2.toInt) ∨ (r_15 = 0 ∧ ¬ stA gQ x_3.toInt a2.toInt) := hp_16
  rcases hp_16 with ⟨rfl, p_19⟩ | ⟨rfl, p_20⟩
  · skip
    refine lv_if_eq (tgt := 45) hx hb dX4_areNamesAhead_15 (by decide) (fun q => absurd q (by decide)) (fun _ => ?_)
    refine lv_iload hx hb dX4_areNamesAhead_18 (lv_at hl 0 rfl) ?_
    refine lv_bipush (v := (-4)) hx hb dX4_areNamesAhead_20 (by decide) ?_
    refine lv_pc (pc2 := 22) rfl ?_
    refine lv_icmp_eq (tgt := 41) hx hb dX4_areNamesAhead_22 (by decide) (fun c_21 => ?_) (fun c_21 => ?_)
    · skip
      have c_21 : x_6.toInt = (-4) := q_eq c_21
      refine lv_iconst (v := 1) hx hb dX4_areNamesAhead_41 (by decide) ?_
      refine lv_goto (tgt := 46) hx hb dX4_areNamesAhead_42 (by decide) ?_
      have zi_1 : (1 : Int32).toInt = 1 := by decide
      exact ty_zret hx hb hr hlk rfl hG hS (Or.inl ⟨rfl, (by show nmA gQ gR a2.toInt; exact ⟨by rw [← i_x_3]; exact p_19, Or.inl (by omega)⟩)⟩) dX4_areNamesAhead_46
    · skip
      have c_21 : x_6.toInt ≠ (-4) := q_ne c_21
      refine lv_iload hx hb dX4_areNamesAhead_25 (lv_at hl 0 rfl) ?_
      refine lv_iload_n hx hb dX4_areNamesAhead_27 rfl (lv_at hl 1 rfl) ?_
      refine lv_icmp_eq (tgt := 45) hx hb dX4_areNamesAhead_28 (by decide) (fun c_22 => ?_) (fun c_22 => ?_)
      · skip
        have c_22 : x_6.toInt = x_3.toInt := q_eq c_22
        refine lv_iconst (v := 0) hx hb dX4_areNamesAhead_45 (by decide) ?_
        refine lv_pc (pc2 := 46) rfl ?_
        have zi_0 : (0 : Int32).toInt = 0 := by decide
        exact ty_zret hx hb hr hlk rfl hG hS (Or.inr ⟨rfl, (by show ¬ nmA gQ gR a2.toInt; exact fun h => h.2.elim (fun q => by omega) (fun q => by omega))⟩) dX4_areNamesAhead_46
      · skip
        have c_22 : x_6.toInt ≠ x_3.toInt := q_ne c_22
        refine lv_aload_n hx hb dX4_areNamesAhead_31 rfl (lv_at hl 2 rfl) ?_
        refine lv_iload hx hb dX4_areNamesAhead_32 (lv_at hl 0 rfl) ?_
        refine lv_iload_n hx hb dX4_areNamesAhead_34 rfl (lv_at hl 4 rfl) ?_
        refine ty_calli (W.runV (As := [.int x_6, .int a2]) (rest := []) ⟨hx, hb, hml, hown, hts⟩ (v_X4_isStoreAhead l D t cI cL cC gC gP gT gR gm gs gg gL gQ gZ gE gV gU gN a0 x_6 a2  uq  k_a0) (cwV 2 hts gu_vX4_areNamesAhead_vX4_isStoreAhead_82 rfl rfl rfl (by decide +kernel) ⟨Nat.le_of_ble_eq_true rfl, Nat.le_of_ble_eq_true rfl⟩) (tP_V hG hE at_14 rfl) rfl rfl hl.1 rfl (lv_room (Nat.le_of_ble_eq_true rfl)) dX4_areNamesAhead_35 ⟨Nat.le_of_ble_eq_true rfl, Nat.le_of_ble_eq_true rfl⟩) hS (fun _ h => h) (fun r_23 H locs hp_24 hG hS o_25 => ?_)
        have at_1 := va_at.keptC at_1 o_25 k_a1 rfl
        have at_14 := va_at.keptC at_14 o_25 k_a0 rfl
        have hp_24 : (r_23 = 1 ∧ stA gQ x_6.toInt a2.toInt) ∨ (r_23 = 0 ∧ ¬ stA gQ x_6.toInt a2.toInt) := hp_24
        rcases hp_24 with ⟨rfl, p_27⟩ | ⟨rfl, p_28⟩
        · skip
          refine lv_if_eq (tgt := 45) hx hb dX4_areNamesAhead_38 (by decide) (fun q => absurd q (by decide)) (fun _ => ?_)
          refine lv_iconst (v := 1) hx hb dX4_areNamesAhead_41 (by decide) ?_
          refine lv_goto (tgt := 46) hx hb dX4_areNamesAhead_42 (by decide) ?_
          refine lv_pc (pc2 := 46) rfl ?_
          have zi_1 : (1 : Int32).toInt = 1 := by decide
          exact ty_zret hx hb hr hlk rfl hG hS (Or.inl ⟨rfl, (by show nmA gQ gR a2.toInt; exact ⟨by rw [← i_x_3]; exact p_19, Or.inr ⟨by omega, by rw [← i_x_6]; exact p_27⟩⟩)⟩) dX4_areNamesAhead_46
        · skip
          refine lv_if_eq (tgt := 45) hx hb dX4_areNamesAhead_38 (by decide) (fun _ => ?_) (fun q => absurd (by decide) q)
          refine lv_iconst (v := 0) hx hb dX4_areNamesAhead_45 (by decide) ?_
          have zi_0 : (0 : Int32).toInt = 0 := by decide
          exact ty_zret hx hb hr hlk rfl hG hS (Or.inr ⟨rfl, (by show ¬ nmA gQ gR a2.toInt; exact fun h => h.2.elim (fun q => by omega) (fun q => absurd q.2 (by rw [← i_x_6]; exact p_28)))⟩) dX4_areNamesAhead_46
  · skip
    refine lv_if_eq (tgt := 45) hx hb dX4_areNamesAhead_15 (by decide) (fun _ => ?_) (fun q => absurd (by decide) q)
    refine lv_iconst (v := 0) hx hb dX4_areNamesAhead_45 (by decide) ?_
    have zi_0 : (0 : Int32).toInt = 0 := by decide
    exact ty_zret hx hb hr hlk rfl hG hS (Or.inr ⟨rfl, (by show ¬ nmA gQ gR a2.toInt; exact fun h => absurd h.1 (by rw [← i_x_3]; exact p_20))⟩) dX4_areNamesAhead_46

def uvX4_areNumbersAsTold : List Cond := .code yX4_areNumbersAsTold cX4_areNumbersAsTold 1 (some .boolean) :: ([.methodLink RX4 77 yX2_areNumbersAsTold, .static yX2_areNumbersAsTold, .initialized RX2, .code yX2_areNumbersAsTold cX2_areNumbersAsTold 4 (some .boolean), .methodLink RX2 10 yX2_isUpTo, .static yX2_isUpTo, .constant RX2 9 (1000000), .code yX2_isUpTo cX2_isUpTo 2 (some .boolean)])
set_option maxRecDepth 20000 in
theorem gu_vX4_areNumbersAsTold_aX2_areNumbersAsTold_77 : GoodIn uvX4_areNumbersAsTold (va_wsS RX4 77 yX2_areNumbersAsTold uaX2_areNumbersAsTold) := goodIn_r _ [1, 2, 3, 4, 5, 6, 3, 7, 8] rfl (by decide +kernel)
set_option maxHeartbeats 4000000 in
set_option maxRecDepth 100000 in
theorem v_X4_areNumbersAsTold (l : Launch) (D : va_G) (t : Nat → Nat) (cI cL cC : ClassId) (gC : Int32) (gP : Int32) (gT : Nat → Int32) (gR : Nat → Int32) (gm : Int32) (gs : Int32) (gg : Int32) (gL : Nat → Int32) (gQ : Nat → Int32) (gZ : Nat → Int32) (gE : Int32) (gV : Nat → Int32) (gU : Nat → Int32) (gN : Nat → Int32) (a0 : Nat) (uq : ∀ b c : Nat, t b = t c → t b ≠ 0 → b = c) (k_a0 : t a0 = 11) : tM l yX4_areNumbersAsTold uvX4_areNumbersAsTold 2 44 D (rF cI cL cC gC gP gT gR gm gs gg gL gQ gZ gE gV gU gN) (rF cI cL cC gC gP gT gR gm gs gg gL gQ gZ gE gV gU gN) t cI cL cC [.ref a0] wr0 (pI (fun r => (r = 1 ∧ wellR gR) ∨ (r = 0 ∧ ¬ wellR gR))) := by
  refine tM.ofW (cc := cX4_areNumbersAsTold) (maxL := 1) (ret := (some .boolean)) (by decide) rfl (Nat.le_of_ble_eq_true rfl) ?_
  intro p e s m below meth c hx hb hr hml hown hts hlk H locs hG hK hE hS ls hl
  have hl : lv_has ls 1 [(0, .ref a0)] := hl
  skip
  refine lv_aload_n hx hb dX4_areNumbersAsTold_0 rfl (lv_at hl 0 rfl) ?_
  refine lv_iconst (v := 0) hx hb dX4_areNumbersAsTold_1 (by decide) ?_
  have at_1 := rF_o11 hG k_a0
  have b_2 : vp_in 0 6 := (q_in (by decide) (by decide))
  refine va_iald hx hb hK (va_one at_1) 0 0 rfl rfl b_2 dX4_areNumbersAsTold_2 ?_
  refine lv_topi (fun x_3 e_4 => ?_)
  have w_x_3 : x_3 = gR 0 := by rw [e_4]; rfl
  have i_x_3 : x_3.toInt = (gR 0).toInt := by rw [w_x_3]
  refine lv_aload_n hx hb dX4_areNumbersAsTold_3 rfl (lv_at hl 0 rfl) ?_
  refine lv_iconst (v := 3) hx hb dX4_areNumbersAsTold_4 (by decide) ?_
  have b_5 : vp_in 3 6 := (q_in (by decide) (by decide))
  refine va_iald hx hb hK (va_one at_1) 0 0 rfl rfl b_5 dX4_areNumbersAsTold_5 ?_
  refine lv_topi (fun x_6 e_7 => ?_)
  have w_x_6 : x_6 = gR 3 := by rw [e_7]; rfl
  have i_x_6 : x_6.toInt = (gR 3).toInt := by rw [w_x_6]
  refine lv_aload_n hx hb dX4_areNumbersAsTold_6 rfl (lv_at hl 0 rfl) ?_
  refine lv_pc (pc2 := 7) rfl ?_
  refine lv_iconst (v := 4) hx hb dX4_areNumbersAsTold_7 (by decide) ?_
  have b_8 : vp_in 4 6 := (q_in (by decide) (by decide))
  refine va_iald hx hb hK (va_one at_1) 0 0 rfl rfl b_8 dX4_areNumbersAsTold_8 ?_
  refine lv_topi (fun x_9 e_10 => ?_)
  have w_x_9 : x_9 = gR 4 := by rw [e_10]; rfl
  have i_x_9 : x_9.toInt = (gR 4).toInt := by rw [w_x_9]
  refine lv_aload_n hx hb dX4_areNumbersAsTold_9 rfl (lv_at hl 0 rfl) ?_
  refine lv_iconst (v := 5) hx hb dX4_areNumbersAsTold_10 (by decide) ?_
  have b_11 : vp_in 5 6 := (q_in (by decide) (by decide))
  refine va_iald hx hb hK (va_one at_1) 0 0 rfl rfl b_11 dX4_areNumbersAsTold_11 ?_
  refine lv_topi (fun x_12 e_13 => ?_)
  have w_x_12 : x_12 = gR 5 := by rw [e_13]; rfl
  have i_x_12 : x_12.toInt = (gR 5).toInt := by rw [w_x_12]
  refine ty_calli (W.runS (As := [.int x_3, .int x_6, .int x_9, .int x_12]) (rest := []) ⟨hx, hb, hml, hown, hts⟩ (a_X2_areNumbersAsTold l D t cI cL cC (rF cI cL cC gC gP gT gR gm gs gg gL gQ gZ gE gV gU gN) x_3 x_6 x_9 x_12   ) (va_cwS 4 hts gu_vX4_areNumbersAsTold_aX2_areNumbersAsTold_77 rfl rfl rfl (by decide +kernel) ⟨Nat.le_of_ble_eq_true rfl, Nat.le_of_ble_eq_true rfl⟩) (tP_S hG hE) rfl rfl hl.1 rfl (lv_room (Nat.le_of_ble_eq_true rfl)) dX4_areNumbersAsTold_12 ⟨Nat.le_of_ble_eq_true rfl, Nat.le_of_ble_eq_true rfl⟩) hS (fun _ h => h) (fun r_14 H locs hp_15 hG hS o_16 => ?_)
  have at_1 := va_at.keptC at_1 o_16 k_a0 rfl
  have hp_15 : (r_14 = 1 ∧ well x_3.toInt x_6 x_9 x_12) ∨ (r_14 = 0 ∧ ¬ well x_3.toInt x_6 x_9 x_12) := hp_15
  rcases hp_15 with ⟨rfl, p_18⟩ | ⟨rfl, p_19⟩
  · skip
    have zi_1 : (1 : Int32).toInt = 1 := by decide
    exact ty_zret hx hb hr hlk rfl hG hS (Or.inl ⟨rfl, (by show wellR gR; unfold wellR; rw [← i_x_3, ← w_x_6, ← w_x_9, ← w_x_12]; exact p_18)⟩) dX4_areNumbersAsTold_15
  · skip
    have zi_0 : (0 : Int32).toInt = 0 := by decide
    exact ty_zret hx hb hr hlk rfl hG hS (Or.inr ⟨rfl, (by show ¬ wellR gR; unfold wellR; rw [← i_x_3, ← w_x_6, ← w_x_9, ← w_x_12]; exact p_19)⟩) dX4_areNumbersAsTold_15

def uvX4_mayFollow : List Cond := .code yX4_mayFollow cX4_mayFollow 2 (some .boolean) :: ([.methodLink RX4 62 yX4_areNumbersAsTold, .static yX4_areNumbersAsTold, .initialized RX4, .fieldLink RX4 21 "RiverModel$Model" "many" "I", .methodLink RX4 69 yX4_areNamesAhead, .instanceMethod yX4_areNamesAhead, .selects RX4 yX4_areNamesAhead yX4_areNamesAhead, .fieldLink RX4 28 "RiverModel$Model" "gates" "I", .methodLink RX4 66 yX4_hasStore, .instanceMethod yX4_hasStore, .selects RX4 yX4_hasStore yX4_hasStore, .code yX4_areNumbersAsTold cX4_areNumbersAsTold 1 (some .boolean), .methodLink RX4 77 yX2_areNumbersAsTold, .static yX2_areNumbersAsTold, .initialized RX2, .code yX2_areNumbersAsTold cX2_areNumbersAsTold 4 (some .boolean), .methodLink RX2 10 yX2_isUpTo, .static yX2_isUpTo, .constant RX2 9 (1000000), .code yX2_isUpTo cX2_isUpTo 2 (some .boolean), .code yX4_areNamesAhead cX4_areNamesAhead 5 (some .boolean), .methodLink RX4 82 yX4_isStoreAhead, .instanceMethod yX4_isStoreAhead, .selects RX4 yX4_isStoreAhead yX4_isStoreAhead, .code yX4_isStoreAhead cX4_isStoreAhead 3 (some .boolean), .fieldLink RX4 15 "RiverModel$Model" "storeItems" "[I", .code yX4_hasStore cX4_hasStore 2 (some .boolean)] ++ wsX40)
set_option maxRecDepth 20000 in
theorem gu_vX4_mayFollow_vX4_areNumbersAsTold_62 : GoodIn uvX4_mayFollow (va_wsS RX4 62 yX4_areNumbersAsTold uvX4_areNumbersAsTold) := goodIn_r _ [1, 2, 3, 12, 13, 14, 15, 16, 17, 18, 19, 20] rfl (by decide +kernel)
set_option maxRecDepth 20000 in
theorem gu_vX4_mayFollow_vX4_areNamesAhead_69 : GoodIn uvX4_mayFollow (wsV RX4 69 RX4 yX4_areNamesAhead uvX4_areNamesAhead) := goodIn_r _ [5, 6, 7, 3, 21, 22, 23, 24, 3, 25, 9, 10, 11, 26, 27, 28, 29, 30, 31, 32, 33] rfl (by decide +kernel)
set_option maxRecDepth 20000 in
theorem gu_vX4_mayFollow_vX4_hasStore_66 : GoodIn uvX4_mayFollow (wsV RX4 66 RX4 yX4_hasStore uvX4_hasStore) := goodIn_r _ [9, 10, 11, 3, 27, 26, 28, 29, 30, 31, 32, 33] rfl (by decide +kernel)
set_option maxHeartbeats 4000000 in
set_option maxRecDepth 100000 in
theorem v_X4_mayFollow (l : Launch) (D : va_G) (t : Nat → Nat) (cI cL cC : ClassId) (gC : Int32) (gP : Int32) (gT : Nat → Int32) (gR : Nat → Int32) (gm : Int32) (gs : Int32) (gg : Int32) (gL : Nat → Int32) (gQ : Nat → Int32) (gZ : Nat → Int32) (gE : Int32) (gV : Nat → Int32) (gU : Nat → Int32) (gN : Nat → Int32) (a0 : Nat) (a1 : Nat) (uq : ∀ b c : Nat, t b = t c → t b ≠ 0 → b = c) (k_a0 : t a0 = 3) (k_a1 : t a1 = 11) : tM l yX4_mayFollow uvX4_mayFollow 3 67 D (rF cI cL cC gC gP gT gR gm gs gg gL gQ gZ gE gV gU gN) (rF cI cL cC gC gP gT gR gm gs gg gL gQ gZ gE gV gU gN) t cI cL cC [.ref a0, .ref a1] wr0 (pI (fun r => (r = 1 ∧ mayF gQ gR gm.toInt gg.toInt) ∨ (r = 0 ∧ ¬ mayF gQ gR gm.toInt gg.toInt))) := by
  refine tM.ofW (cc := cX4_mayFollow) (maxL := 2) (ret := (some .boolean)) (by decide) rfl (Nat.le_of_ble_eq_true rfl) ?_
  intro p e s m below meth c hx hb hr hml hown hts hlk H locs hG hK hE hS ls hl
  have hl : lv_has ls 2 [(0, .ref a0), (1, .ref a1)] := hl
  have in4 : ∀ w ∈ wsX40, w ∈ uvX4_mayFollow := fun w h => List.mem_cons_of_mem _ (List.mem_append_right _ h)
  refine lv_aload_n hx hb dX4_mayFollow_0 rfl (lv_at hl 1 rfl) ?_
  refine lv_iconst (v := 0) hx hb dX4_mayFollow_1 (by decide) ?_
  have at_1 := rF_o11 hG k_a1
  have b_2 : vp_in 0 6 := (q_in (by decide) (by decide))
  refine va_iald hx hb hK (va_one at_1) 0 0 rfl rfl b_2 dX4_mayFollow_2 ?_
  refine lv_topi (fun x_3 e_4 => ?_)
  have w_x_3 : x_3 = gR 0 := by rw [e_4]; rfl
  have i_x_3 : x_3.toInt = (gR 0).toInt := by rw [w_x_3]
  refine lv_bipush (v := 115) hx hb dX4_mayFollow_3 (by decide) ?_
  refine lv_icmp_ne (tgt := 31) hx hb dX4_mayFollow_5 (by decide) (fun c_5 => ?_) (fun c_5 => ?_)
  · skip
    have c_5 : x_3.toInt ≠ 115 := q_ne c_5
    refine lv_aload_n hx hb dX4_mayFollow_31 rfl (lv_at hl 1 rfl) ?_
    refine ty_calli (W.runS (As := [.ref a1]) (rest := []) ⟨hx, hb, hml, hown, hts⟩ (v_X4_areNumbersAsTold l D t cI cL cC gC gP gT gR gm gs gg gL gQ gZ gE gV gU gN a1  uq  k_a1) (va_cwS 1 hts gu_vX4_mayFollow_vX4_areNumbersAsTold_62 rfl rfl rfl (by decide +kernel) ⟨Nat.le_of_ble_eq_true rfl, Nat.le_of_ble_eq_true rfl⟩) (tP_S hG hE) rfl rfl hl.1 rfl (lv_room (Nat.le_of_ble_eq_true rfl)) dX4_mayFollow_32 ⟨Nat.le_of_ble_eq_true rfl, Nat.le_of_ble_eq_true rfl⟩) hS (fun _ h => h) (fun r_6 H locs hp_7 hG hS o_8 => ?_)
    have at_1 := va_at.keptC at_1 o_8 k_a1 rfl
    have hp_7 : (r_6 = 1 ∧ wellR gR) ∨ (r_6 = 0 ∧ ¬ wellR gR) := hp_7
    rcases hp_7 with ⟨rfl, p_10⟩ | ⟨rfl, p_11⟩
    · skip
      refine lv_pc (pc2 := 35) rfl ?_
      refine lv_if_eq (tgt := 70) hx hb dX4_mayFollow_35 (by decide) (fun q => absurd q (by decide)) (fun _ => ?_)
      refine lv_aload_n hx hb dX4_mayFollow_38 rfl (lv_at hl 0 rfl) ?_
      refine lv_aload_n hx hb dX4_mayFollow_39 rfl (lv_at hl 1 rfl) ?_
      refine lv_aload_n hx hb dX4_mayFollow_40 rfl (lv_at hl 0 rfl) ?_
      obtain ⟨r_12, r_14, r_16, at_18, h_13, h_15, h_17⟩ := rF_o3 hG k_a0
      refine va_get (D := D) (ci := 3) (v := .int gm) (C := RX4) (T := TX4) (N := 6) hx hb hts in4 hown hK (va_one at_18) 0 rfl rfl 3 (by decide) (hts (.fieldLink RX4 21 "RiverModel$Model" "many" "I") (List.mem_of_getElem? (i := 4) rfl)) (fun _ h9 => h9) rfl dX4_mayFollow_41 ?_
      refine ty_calli (W.runV (As := [.ref a1, .int gm]) (rest := []) ⟨hx, hb, hml, hown, hts⟩ (v_X4_areNamesAhead l D t cI cL cC gC gP gT gR gm gs gg gL gQ gZ gE gV gU gN a0 a1 gm  uq  k_a0 k_a1) (cwV 2 hts gu_vX4_mayFollow_vX4_areNamesAhead_69 rfl rfl rfl (by decide +kernel) ⟨Nat.le_of_ble_eq_true rfl, Nat.le_of_ble_eq_true rfl⟩) (tP_V hG hE at_18 rfl) rfl rfl hl.1 rfl (lv_room (Nat.le_of_ble_eq_true rfl)) dX4_mayFollow_44 ⟨Nat.le_of_ble_eq_true rfl, Nat.le_of_ble_eq_true rfl⟩) hS (fun _ h => h) (fun r_19 H locs hp_20 hG hS o_21 => ?_)
      have at_1 := va_at.keptC at_1 o_21 k_a1 rfl
      have at_18 := va_at.keptC at_18 o_21 k_a0 rfl
      have hp_20 : (r_19 = 1 ∧ nmA gQ gR gm.toInt) ∨ (r_19 = 0 ∧ ¬ nmA gQ gR gm.toInt) := hp_20
      rcases hp_20 with ⟨rfl, p_23⟩ | ⟨rfl, p_24⟩
      · skip
        refine lv_if_eq (tgt := 70) hx hb dX4_mayFollow_47 (by decide) (fun q => absurd q (by decide)) (fun _ => ?_)
        refine lv_aload_n hx hb dX4_mayFollow_50 rfl (lv_at hl 1 rfl) ?_
        refine lv_pc (pc2 := 51) rfl ?_
        refine lv_iconst (v := 0) hx hb dX4_mayFollow_51 (by decide) ?_
        have b_25 : vp_in 0 6 := (q_in (by decide) (by decide))
        refine va_iald hx hb hK (va_one at_1) 0 0 rfl rfl b_25 dX4_mayFollow_52 ?_
        refine lv_seti (y := x_3) e_4.symm ?_
        refine lv_bipush (v := 103) hx hb dX4_mayFollow_53 (by decide) ?_
        refine lv_icmp_ne (tgt := 66) hx hb dX4_mayFollow_55 (by decide) (fun c_26 => ?_) (fun c_26 => ?_)
        · skip
          have c_26 : x_3.toInt ≠ 103 := q_ne c_26
          refine lv_iconst (v := 1) hx hb dX4_mayFollow_66 (by decide) ?_
          refine lv_goto (tgt := 71) hx hb dX4_mayFollow_67 (by decide) ?_
          have zi_1 : (1 : Int32).toInt = 1 := by decide
          exact ty_zret hx hb hr hlk rfl hG hS (Or.inl ⟨rfl, (by show mayF gQ gR gm.toInt gg.toInt; exact ⟨p_10, fun q => by omega, fun _ => ⟨p_23, fun q => by omega⟩⟩)⟩) dX4_mayFollow_71
        · skip
          have c_26 : x_3.toInt = 103 := q_eq c_26
          refine lv_aload_n hx hb dX4_mayFollow_58 rfl (lv_at hl 0 rfl) ?_
          refine lv_pc (pc2 := 59) rfl ?_
          refine va_get (D := D) (ci := 3) (v := .int gg) (C := RX4) (T := TX4) (N := 6) hx hb hts in4 hown hK (va_one at_18) 0 rfl rfl 5 (by decide) (hts (.fieldLink RX4 28 "RiverModel$Model" "gates" "I") (List.mem_of_getElem? (i := 8) rfl)) (fun _ h9 => h9) rfl dX4_mayFollow_59 ?_
          refine lv_iconst (v := 4) hx hb dX4_mayFollow_62 (by decide) ?_
          refine lv_icmp_ge (tgt := 70) hx hb dX4_mayFollow_63 (by decide) (fun c_27 => ?_) (fun c_27 => ?_)
          · skip
            have c_27 : 4 ≤ gg.toInt := q_le c_27
            refine lv_iconst (v := 0) hx hb dX4_mayFollow_70 (by decide) ?_
            have zi_0 : (0 : Int32).toInt = 0 := by decide
            exact ty_zret hx hb hr hlk rfl hG hS (Or.inr ⟨rfl, (by show ¬ mayF gQ gR gm.toInt gg.toInt; exact fun h => by have := (h.2.2 (by omega)).2 (by omega); omega)⟩) dX4_mayFollow_71
          · skip
            have c_27 : gg.toInt < 4 := q_nle c_27
            refine lv_iconst (v := 1) hx hb dX4_mayFollow_66 (by decide) ?_
            refine lv_goto (tgt := 71) hx hb dX4_mayFollow_67 (by decide) ?_
            have zi_1 : (1 : Int32).toInt = 1 := by decide
            exact ty_zret hx hb hr hlk rfl hG hS (Or.inl ⟨rfl, (by show mayF gQ gR gm.toInt gg.toInt; exact ⟨p_10, fun q => by omega, fun _ => ⟨p_23, fun q => by omega⟩⟩)⟩) dX4_mayFollow_71
      · skip
        refine lv_pc (pc2 := 47) rfl ?_
        refine lv_if_eq (tgt := 70) hx hb dX4_mayFollow_47 (by decide) (fun _ => ?_) (fun q => absurd (by decide) q)
        refine lv_iconst (v := 0) hx hb dX4_mayFollow_70 (by decide) ?_
        have zi_0 : (0 : Int32).toInt = 0 := by decide
        exact ty_zret hx hb hr hlk rfl hG hS (Or.inr ⟨rfl, (by show ¬ mayF gQ gR gm.toInt gg.toInt; exact fun h => absurd (h.2.2 (by omega)).1 p_24)⟩) dX4_mayFollow_71
    · skip
      refine lv_if_eq (tgt := 70) hx hb dX4_mayFollow_35 (by decide) (fun _ => ?_) (fun q => absurd (by decide) q)
      refine lv_iconst (v := 0) hx hb dX4_mayFollow_70 (by decide) ?_
      have zi_0 : (0 : Int32).toInt = 0 := by decide
      exact ty_zret hx hb hr hlk rfl hG hS (Or.inr ⟨rfl, (by show ¬ mayF gQ gR gm.toInt gg.toInt; exact fun h => absurd h.1 p_11)⟩) dX4_mayFollow_71
  · skip
    have c_5 : x_3.toInt = 115 := q_eq c_5
    refine lv_aload_n hx hb dX4_mayFollow_8 rfl (lv_at hl 1 rfl) ?_
    refine ty_calli (W.runS (As := [.ref a1]) (rest := []) ⟨hx, hb, hml, hown, hts⟩ (v_X4_areNumbersAsTold l D t cI cL cC gC gP gT gR gm gs gg gL gQ gZ gE gV gU gN a1  uq  k_a1) (va_cwS 1 hts gu_vX4_mayFollow_vX4_areNumbersAsTold_62 rfl rfl rfl (by decide +kernel) ⟨Nat.le_of_ble_eq_true rfl, Nat.le_of_ble_eq_true rfl⟩) (tP_S hG hE) rfl rfl hl.1 rfl (lv_room (Nat.le_of_ble_eq_true rfl)) dX4_mayFollow_9 ⟨Nat.le_of_ble_eq_true rfl, Nat.le_of_ble_eq_true rfl⟩) hS (fun _ h => h) (fun r_28 H locs hp_29 hG hS o_30 => ?_)
    have at_1 := va_at.keptC at_1 o_30 k_a1 rfl
    have hp_29 : (r_28 = 1 ∧ wellR gR) ∨ (r_28 = 0 ∧ ¬ wellR gR) := hp_29
    rcases hp_29 with ⟨rfl, p_32⟩ | ⟨rfl, p_33⟩
    · skip
      refine lv_pc (pc2 := 12) rfl ?_
      refine lv_if_eq (tgt := 29) hx hb dX4_mayFollow_12 (by decide) (fun q => absurd q (by decide)) (fun _ => ?_)
      refine lv_aload_n hx hb dX4_mayFollow_15 rfl (lv_at hl 0 rfl) ?_
      refine lv_aload_n hx hb dX4_mayFollow_16 rfl (lv_at hl 1 rfl) ?_
      refine lv_iconst (v := 1) hx hb dX4_mayFollow_17 (by decide) ?_
      have b_34 : vp_in 1 6 := (q_in (by decide) (by decide))
      refine va_iald hx hb hK (va_one at_1) 0 0 rfl rfl b_34 dX4_mayFollow_18 ?_
      refine lv_topi (fun x_35 e_36 => ?_)
      have w_x_35 : x_35 = gR 1 := by rw [e_36]; rfl
      have i_x_35 : x_35.toInt = (gR 1).toInt := by rw [w_x_35]
      obtain ⟨r_37, r_39, r_41, at_43, h_38, h_40, h_42⟩ := rF_o3 hG k_a0
      refine ty_calli (W.runV (As := [.int x_35]) (rest := []) ⟨hx, hb, hml, hown, hts⟩ (v_X4_hasStore l D t cI cL cC gC gP gT gR gm gs gg gL gQ gZ gE gV gU gN a0 x_35  uq  k_a0) (cwV 1 hts gu_vX4_mayFollow_vX4_hasStore_66 rfl rfl rfl (by decide +kernel) ⟨Nat.le_of_ble_eq_true rfl, Nat.le_of_ble_eq_true rfl⟩) (tP_V hG hE at_43 rfl) rfl rfl hl.1 rfl (lv_room (Nat.le_of_ble_eq_true rfl)) dX4_mayFollow_19 ⟨Nat.le_of_ble_eq_true rfl, Nat.le_of_ble_eq_true rfl⟩) hS (fun _ h => h) (fun r_44 H locs hp_45 hG hS o_46 => ?_)
      have at_1 := va_at.keptC at_1 o_46 k_a1 rfl
      have at_43 := va_at.keptC at_43 o_46 k_a0 rfl
      have hp_45 : (r_44 = 1 ∧ hsQ gQ x_35.toInt) ∨ (r_44 = 0 ∧ ¬ hsQ gQ x_35.toInt) := hp_45
      rcases hp_45 with ⟨rfl, p_48⟩ | ⟨rfl, p_49⟩
      · skip
        refine lv_if_ne (tgt := 29) hx hb dX4_mayFollow_22 (by decide) (fun _ => ?_) (fun q => absurd q (by decide))
        refine lv_iconst (v := 0) hx hb dX4_mayFollow_29 (by decide) ?_
        refine lv_pc (pc2 := 30) rfl ?_
        have zi_0 : (0 : Int32).toInt = 0 := by decide
        exact ty_zret hx hb hr hlk rfl hG hS (Or.inr ⟨rfl, (by show ¬ mayF gQ gR gm.toInt gg.toInt; exact fun h => absurd (by rw [← i_x_35]; exact p_48) (h.2.1 (by omega)))⟩) dX4_mayFollow_30
      · skip
        refine lv_if_ne (tgt := 29) hx hb dX4_mayFollow_22 (by decide) (fun q => absurd rfl q) (fun _ => ?_)
        refine lv_iconst (v := 1) hx hb dX4_mayFollow_25 (by decide) ?_
        refine lv_goto (tgt := 30) hx hb dX4_mayFollow_26 (by decide) ?_
        have zi_1 : (1 : Int32).toInt = 1 := by decide
        exact ty_zret hx hb hr hlk rfl hG hS (Or.inl ⟨rfl, (by show mayF gQ gR gm.toInt gg.toInt; exact ⟨p_32, fun _ => (by rw [← i_x_35]; exact p_49), fun q => absurd (show (gR 0).toInt = 115 by omega) q⟩)⟩) dX4_mayFollow_30
    · skip
      refine lv_if_eq (tgt := 29) hx hb dX4_mayFollow_12 (by decide) (fun _ => ?_) (fun q => absurd (by decide) q)
      refine lv_iconst (v := 0) hx hb dX4_mayFollow_29 (by decide) ?_
      have zi_0 : (0 : Int32).toInt = 0 := by decide
      exact ty_zret hx hb hr hlk rfl hG hS (Or.inr ⟨rfl, (by show ¬ mayF gQ gR gm.toInt gg.toInt; exact fun h => absurd h.1 p_33)⟩) dX4_mayFollow_30

def uvX4_cell : List Cond := .code yX4_cell cX4_cell 3 (some .int) :: ([.fieldLink RX4 9 "RiverModel$Model" "cells" "[I"] ++ wsX40)
set_option maxHeartbeats 4000000 in
set_option maxRecDepth 100000 in
theorem v_X4_cell (l : Launch) (D : va_G) (t : Nat → Nat) (cI cL cC : ClassId) (gC : Int32) (gP : Int32) (gT : Nat → Int32) (gR : Nat → Int32) (gm : Int32) (gs : Int32) (gg : Int32) (gL : Nat → Int32) (gQ : Nat → Int32) (gZ : Nat → Int32) (gE : Int32) (gV : Nat → Int32) (gU : Nat → Int32) (gN : Nat → Int32) (a0 : Nat) (a1 : Int32) (a2 : Int32) (Wt : Int) (uq : ∀ b c : Nat, t b = t c → t b ≠ 0 → b = c) (hw : a2.toInt = Wt) (k_a0 : t a0 = 3) : tM l yX4_cell uvX4_cell 0 0 D (rF cI cL cC gC gP gT gR gm gs gg gL gQ gZ gE gV gU gN) (rF cI cL cC gC gP gT gR gm gs gg gL gQ gZ gE gV gU gN) t cI cL cC [.ref a0, .int a1, .int a2] wr0 (pI (fun r => cellQ gL a1.toInt Wt r)) := by
  refine tM.ofW (cc := cX4_cell) (maxL := 3) (ret := (some .int)) (by decide) rfl (Nat.le_of_ble_eq_true rfl) ?_
  intro p e s m below meth c hx hb hr hml hown hts hlk H locs hG hK hE hS ls hl
  have hl : lv_has ls 3 [(0, .ref a0), (1, .int a1), (2, .int a2)] := hl
  have in4 : ∀ w ∈ wsX40, w ∈ uvX4_cell := fun w h => List.mem_cons_of_mem _ (List.mem_append_right _ h)
  refine lv_iload_n hx hb dX4_cell_0 rfl (lv_at hl 1 rfl) ?_
  refine lv_if_lt (tgt := 20) hx hb dX4_cell_1 (by decide) (fun c_1 => ?_) (fun c_1 => ?_)
  · skip
    have c_1 : a1.toInt < 0 := q_lt c_1
    refine lv_bipush (v := (-4)) hx hb dX4_cell_20 (by decide) ?_
    refine lv_goto (tgt := 36) hx hb dX4_cell_22 (by decide) ?_
    have zi_m4 : ((-4) : Int32).toInt = (-4) := by decide
    exact ty_iret hx hb hr hlk hG hS (by show cellQ gL a1.toInt Wt ((-4) : Int32); exact ⟨fun q => by omega, fun _ => rfl⟩) dX4_cell_36
  · skip
    have c_1 : 0 ≤ a1.toInt := q_nlt c_1
    refine lv_iload_n hx hb dX4_cell_4 rfl (lv_at hl 1 rfl) ?_
    refine lv_bipush (v := 40) hx hb dX4_cell_5 (by decide) ?_
    refine lv_pc (pc2 := 7) rfl ?_
    refine lv_icmp_ge (tgt := 20) hx hb dX4_cell_7 (by decide) (fun c_2 => ?_) (fun c_2 => ?_)
    · skip
      have c_2 : 40 ≤ a1.toInt := q_le c_2
      refine lv_bipush (v := (-4)) hx hb dX4_cell_20 (by decide) ?_
      refine lv_goto (tgt := 36) hx hb dX4_cell_22 (by decide) ?_
      have zi_m4 : ((-4) : Int32).toInt = (-4) := by decide
      exact ty_iret hx hb hr hlk hG hS (by show cellQ gL a1.toInt Wt ((-4) : Int32); exact ⟨fun q => by omega, fun _ => rfl⟩) dX4_cell_36
    · skip
      have c_2 : a1.toInt < 40 := q_nle c_2
      refine lv_iload_n hx hb dX4_cell_10 rfl (lv_at hl 2 rfl) ?_
      refine lv_if_lt (tgt := 20) hx hb dX4_cell_11 (by decide) (fun c_3 => ?_) (fun c_3 => ?_)
      · skip
        have c_3 : a2.toInt < 0 := q_lt c_3
        refine lv_bipush (v := (-4)) hx hb dX4_cell_20 (by decide) ?_
        refine lv_goto (tgt := 36) hx hb dX4_cell_22 (by decide) ?_
        refine lv_pc (pc2 := 36) rfl ?_
        have zi_m4 : ((-4) : Int32).toInt = (-4) := by decide
        exact ty_iret hx hb hr hlk hG hS (by show cellQ gL a1.toInt Wt ((-4) : Int32); exact ⟨fun q => by omega, fun _ => rfl⟩) dX4_cell_36
      · skip
        have c_3 : 0 ≤ a2.toInt := q_nlt c_3
        refine lv_iload_n hx hb dX4_cell_14 rfl (lv_at hl 2 rfl) ?_
        refine lv_bipush (v := 6) hx hb dX4_cell_15 (by decide) ?_
        refine lv_icmp_lt (tgt := 25) hx hb dX4_cell_17 (by decide) (fun c_4 => ?_) (fun c_4 => ?_)
        · skip
          have c_4 : a2.toInt < 6 := q_lt c_4
          refine lv_aload_n hx hb dX4_cell_25 rfl (lv_at hl 0 rfl) ?_
          obtain ⟨r_5, r_7, r_9, at_11, h_6, h_8, h_10⟩ := rF_o3 hG k_a0
          refine va_get (D := D) (ci := 3) (v := .ref r_5) (C := RX4) (T := TX4) (N := 6) hx hb hts in4 hown hK (va_one at_11) 0 rfl rfl 0 (by decide) (hts (.fieldLink RX4 9 "RiverModel$Model" "cells" "[I") (List.mem_of_getElem? (i := 1) rfl)) (fun _ h9 => h9) rfl dX4_cell_26 ?_
          refine lv_iload_n hx hb dX4_cell_29 rfl (lv_at hl 1 rfl) ?_
          refine lv_bipush (v := 6) hx hb dX4_cell_30 (by decide) ?_
          refine lv_pc (pc2 := 32) rfl ?_
          refine lv_imul hx hb dX4_cell_32 ?_
          refine lv_topi (fun x_12 e_13 => ?_)
          have i_x_12 : x_12.toInt = a1.toInt * 6 := by rw [e_13]; exact (q_mul (by rw [show (6 : Int32).toInt = 6 by decide]; omega) (by rw [show (6 : Int32).toInt = 6 by decide]; omega)).trans (by rw [show (6 : Int32).toInt = 6 by decide])
          refine lv_iload_n hx hb dX4_cell_33 rfl (lv_at hl 2 rfl) ?_
          refine lv_iadd hx hb dX4_cell_34 ?_
          refine lv_topi (fun x_14 e_15 => ?_)
          have i_x_14 : x_14.toInt = x_12.toInt + a2.toInt := by rw [e_15]; exact (q_add (by omega) (by omega)).trans (by rfl)
          have at_16 := rF_o12 hG h_6
          have b_17 : vp_in x_14 240 := (q_in (by omega) (by omega))
          refine va_iald hx hb hK (va_one at_16) 0 0 rfl rfl b_17 dX4_cell_35 ?_
          refine lv_topi (fun x_18 e_19 => ?_)
          have w_x_18 : x_18 = gL (6 * a1.toInt + Wt).toNat := by rw [e_19]; exact congrArg (fun q : Int => gL q.toNat) (show x_14.toInt = 6 * a1.toInt + Wt by omega)
          have i_x_18 : x_18.toInt = (gL (6 * a1.toInt + Wt).toNat).toInt := by rw [w_x_18]
          exact ty_iret hx hb hr hlk hG hS (by show cellQ gL a1.toInt Wt x_18; exact ⟨fun _ => w_x_18, fun q => by exfalso; omega⟩) dX4_cell_36
        · skip
          have c_4 : 6 ≤ a2.toInt := q_nlt c_4
          refine lv_bipush (v := (-4)) hx hb dX4_cell_20 (by decide) ?_
          refine lv_goto (tgt := 36) hx hb dX4_cell_22 (by decide) ?_
          have zi_m4 : ((-4) : Int32).toInt = (-4) := by decide
          exact ty_iret hx hb hr hlk hG hS (by show cellQ gL a1.toInt Wt ((-4) : Int32); exact ⟨fun q => by omega, fun _ => rfl⟩) dX4_cell_36

def uvX4_putCell : List Cond := .code yX4_putCell cX4_putCell 4 none :: ([.initialized RX9, .static yX9_isNoItem, .static yX9_isOutside, .fieldLink RX4 9 "RiverModel$Model" "cells" "[I", .code yX9_isNoItem cX9_isNoItem 1 (some .boolean), .code yX9_isOutside cX9_isOutside 3 (some .boolean)] ++ wsX40)
set_option maxRecDepth 20000 in
theorem gu_vX4_putCell_aX9_isNoItem_n : GoodIn uvX4_putCell (uaX9_isNoItem) := goodIn_r _ [5] rfl (by decide +kernel)
set_option maxRecDepth 20000 in
theorem gu_vX4_putCell_aX9_isOutside_n : GoodIn uvX4_putCell (uaX9_isOutside) := goodIn_r _ [6] rfl (by decide +kernel)
set_option maxHeartbeats 4000000 in
set_option maxRecDepth 100000 in
theorem v_X4_putCell (l : Launch) (D : va_G) (t : Nat → Nat) (cI cL cC : ClassId) (gC : Int32) (gP : Int32) (gT : Nat → Int32) (gR : Nat → Int32) (gm : Int32) (gs : Int32) (gg : Int32) (gL : Nat → Int32) (gQ : Nat → Int32) (gZ : Nat → Int32) (gE : Int32) (gV : Nat → Int32) (gU : Nat → Int32) (gN : Nat → Int32) (a0 : Nat) (a1 : Int32) (a2 : Int32) (a3 : Int32) (uq : ∀ b c : Nat, t b = t c → t b ≠ 0 → b = c) (h0 : 0 ≤ a1.toInt) (h39 : a1.toInt ≤ 39) (hw0 : 0 ≤ a2.toInt) (hw5 : a2.toInt ≤ 5) (k_a0 : t a0 = 3) : tMx (Z := (Nat → Int32)) l yX4_putCell uvX4_putCell 1 22 D (rF cI cL cC gC gP gT gR gm gs gg gL gQ gZ gE gV gU gN) (fun z => (rF cI cL cC gC gP gT gR gm gs gg z gQ gZ gE gV gU gN)) t cI cL cC [.ref a0, .int a1, .int a2, .int a3] vL (xV (fun (z : (Nat → Int32)) => z = upd gL (6 * a1.toInt + a2.toInt).toNat a3)) := by
  refine tMx.ofW (cc := cX4_putCell) (maxL := 4) (ret := none) (by decide) rfl (Nat.le_of_ble_eq_true rfl) ?_
  intro p e s m below meth c hx hb hr hml hown hts hlk H locs hG hK hE hS ls hl
  have hl : lv_has ls 4 [(0, .ref a0), (1, .int a1), (2, .int a2), (3, .int a3)] := hl
  have in4 : ∀ w ∈ wsX40, w ∈ uvX4_putCell := fun w h => List.mem_cons_of_mem _ (List.mem_append_right _ h)
  refine lv_iload_n hx hb dX4_putCell_0 rfl (lv_at hl 1 rfl) ?_
  refine ty_calli (tRun (va_runSN (As := [.int a1]) (rest := []) ⟨hx, hb, hml, hown, hts⟩ (a_X9_isNoItem l D t cI cL cC (rF cI cL cC gC gP gT gR gm gs gg gL gQ gZ gE gV gU gN) a1   ) ⟨(va_cnB 1 hts gu_vX4_putCell_aX9_isNoItem_n rfl rfl rfl (hE.2.1 _ (List.mem_of_getElem? (i := 8) rfl)) (hts (.initialized RX9) (List.mem_of_getElem? (i := 1) rfl)) (by decide +kernel) ⟨Nat.le_of_ble_eq_true rfl, Nat.le_of_ble_eq_true rfl⟩), (hts (.static yX9_isNoItem) (List.mem_of_getElem? (i := 2) rfl)), trivial⟩ (tP_S hG hE) rfl rfl hl.1 rfl (lv_room (Nat.le_of_ble_eq_true rfl)) dX4_putCell_1 ⟨Nat.le_of_ble_eq_true rfl, Nat.le_of_ble_eq_true rfl⟩)) hS (fun k h => by simp [wr0] at h) (fun r_1 H locs hp_2 hG hS o_3 => ?_)
  have hp_2 : (r_1 = 1 ∧ (a1.toInt < 0 ∨ 39 < a1.toInt)) ∨ (r_1 = 0 ∧ 0 ≤ a1.toInt ∧ a1.toInt ≤ 39) := hp_2
  rcases hp_2 with ⟨rfl, p_5⟩ | ⟨rfl, p_6, p_7⟩
  · skip
    refine lv_if_ne (tgt := 28) hx hb dX4_putCell_4 (by decide) (fun _ => ?_) (fun q => absurd q (by decide))
    exact tx_vret (z := (gL)) hx hb hr hlk hG hS (by exfalso; omega) dX4_putCell_28
  · skip
    refine lv_if_ne (tgt := 28) hx hb dX4_putCell_4 (by decide) (fun q => absurd rfl q) (fun _ => ?_)
    refine lv_iload_n hx hb dX4_putCell_7 rfl (lv_at hl 2 rfl) ?_
    refine lv_iconst (v := 0) hx hb dX4_putCell_8 (by decide) ?_
    refine lv_pc (pc2 := 9) rfl ?_
    refine lv_iconst (v := 5) hx hb dX4_putCell_9 (by decide) ?_
    have zi_0 : (0 : Int32).toInt = 0 := by decide
    have zi_5 : (5 : Int32).toInt = 5 := by decide
    refine ty_calli (tRun (va_runSN (As := [.int a2, .int 0, .int 5]) (rest := []) ⟨hx, hb, hml, hown, hts⟩ (a_X9_isOutside l D t cI cL cC (rF cI cL cC gC gP gT gR gm gs gg gL gQ gZ gE gV gU gN) a2 0 5 a2.toInt 0 5 rfl (by decide) (by decide) ) ⟨(va_cnB 3 hts gu_vX4_putCell_aX9_isOutside_n rfl rfl rfl (hE.2.1 _ (List.mem_of_getElem? (i := 9) rfl)) (hts (.initialized RX9) (List.mem_of_getElem? (i := 1) rfl)) (by decide +kernel) ⟨Nat.le_of_ble_eq_true rfl, Nat.le_of_ble_eq_true rfl⟩), (hts (.static yX9_isOutside) (List.mem_of_getElem? (i := 3) rfl)), trivial⟩ (tP_S hG hE) rfl rfl hl.1 rfl (lv_room (Nat.le_of_ble_eq_true rfl)) dX4_putCell_10 ⟨Nat.le_of_ble_eq_true rfl, Nat.le_of_ble_eq_true rfl⟩)) hS (fun k h => by simp [wr0] at h) (fun r_8 H locs hp_9 hG hS o_10 => ?_)
    have hp_9 : (r_8 = 1 ∧ (a2.toInt < 0 ∨ 5 < a2.toInt)) ∨ (r_8 = 0 ∧ 0 ≤ a2.toInt ∧ a2.toInt ≤ 5) := hp_9
    rcases hp_9 with ⟨rfl, p_12⟩ | ⟨rfl, p_13, p_14⟩
    · skip
      refine lv_if_ne (tgt := 28) hx hb dX4_putCell_13 (by decide) (fun _ => ?_) (fun q => absurd q (by decide))
      exact tx_vret (z := (gL)) hx hb hr hlk hG hS (by exfalso; omega) dX4_putCell_28
    · skip
      refine lv_if_ne (tgt := 28) hx hb dX4_putCell_13 (by decide) (fun q => absurd rfl q) (fun _ => ?_)
      refine lv_aload_n hx hb dX4_putCell_16 rfl (lv_at hl 0 rfl) ?_
      obtain ⟨r_15, r_17, r_19, at_21, h_16, h_18, h_20⟩ := rF_o3 hG k_a0
      refine va_get (D := D) (ci := 3) (v := .ref r_15) (C := RX4) (T := TX4) (N := 6) hx hb hts in4 hown hK (va_one at_21) 0 rfl rfl 0 (by decide) (hts (.fieldLink RX4 9 "RiverModel$Model" "cells" "[I") (List.mem_of_getElem? (i := 4) rfl)) (fun _ h9 => h9) rfl dX4_putCell_17 ?_
      refine lv_iload_n hx hb dX4_putCell_20 rfl (lv_at hl 1 rfl) ?_
      refine lv_pc (pc2 := 21) rfl ?_
      refine lv_bipush (v := 6) hx hb dX4_putCell_21 (by decide) ?_
      refine lv_imul hx hb dX4_putCell_23 ?_
      refine lv_topi (fun x_22 e_23 => ?_)
      have i_x_22 : x_22.toInt = a1.toInt * 6 := by rw [e_23]; exact (q_mul (by rw [show (6 : Int32).toInt = 6 by decide]; omega) (by rw [show (6 : Int32).toInt = 6 by decide]; omega)).trans (by rw [show (6 : Int32).toInt = 6 by decide])
      refine lv_iload_n hx hb dX4_putCell_24 rfl (lv_at hl 2 rfl) ?_
      refine lv_iadd hx hb dX4_putCell_25 ?_
      refine lv_topi (fun x_24 e_25 => ?_)
      have i_x_24 : x_24.toInt = x_22.toInt + a2.toInt := by rw [e_25]; exact (q_add (by omega) (by omega)).trans (by rfl)
      refine lv_iload_n hx hb dX4_putCell_26 rfl (lv_at hl 3 rfl) ?_
      have at_26 := rF_o12 hG h_16
      have b_27 : vp_in x_24 240 := (q_in (by omega) (by omega))
      obtain ⟨q_28, eq_28⟩ : ∃ q : Nat → Int32, q = upd gL x_24.toNatClampNeg a3 := ⟨_, rfl⟩
      refine ty_iast (F2 := (rF cI cL cC gC gP gT gR gm gs gg q_28 gQ gZ gE gV gU gN)) hx hb hK hG hS 0 at_26 (by rw [h_16]; rfl) rfl b_27 (by rw [h_16]; show _ = _; rw [eq_28]) (fun hG b hb h0 => by obtain ⟨e, g1, g2⟩ := hG b h0; exact ⟨e, g1, rF_gL (fun h => hb (uq b r_15 (h.trans h_16.symm) h0)) g2⟩) dX4_putCell_27 (fun H locs hG hS at_29 o_30 => ?_)
      have at_21 := va_at.keptK at_21 o_30 h_16 k_a0 rfl
      exact tx_vret (z := (q_28)) hx hb hr hlk hG hS (by show q_28 = upd gL (6 * a1.toInt + a2.toInt).toNat a3; rw [eq_28, q_clE (x := x_24) (n := 6 * a1.toInt + a2.toInt) (by omega)]) dX4_putCell_28

def uvX4_put : List Cond := .code yX4_put cX4_put 4 none :: ([.methodLink RX4 51 yX4_putCell, .instanceMethod yX4_putCell, .selects RX4 yX4_putCell yX4_putCell, .initialized RX4, .code yX4_putCell cX4_putCell 4 none, .initialized RX9, .static yX9_isNoItem, .static yX9_isOutside, .fieldLink RX4 9 "RiverModel$Model" "cells" "[I", .code yX9_isNoItem cX9_isNoItem 1 (some .boolean), .code yX9_isOutside cX9_isOutside 3 (some .boolean)] ++ wsX40)
set_option maxRecDepth 20000 in
theorem gu_vX4_put_vX4_putCell_51 : GoodIn uvX4_put (wsV RX4 51 RX4 yX4_putCell uvX4_putCell) := goodIn_r _ [1, 2, 3, 4, 5, 6, 7, 8, 9, 10, 11, 12, 13, 14, 15, 16, 17] rfl (by decide +kernel)
set_option maxHeartbeats 4000000 in
set_option maxRecDepth 100000 in
theorem v_X4_put (l : Launch) (D : va_G) (t : Nat → Nat) (cI cL cC : ClassId) (gC : Int32) (gP : Int32) (gT : Nat → Int32) (gR : Nat → Int32) (gm : Int32) (gs : Int32) (gg : Int32) (gL : Nat → Int32) (gQ : Nat → Int32) (gZ : Nat → Int32) (gE : Int32) (gV : Nat → Int32) (gU : Nat → Int32) (gN : Nat → Int32) (a0 : Nat) (a1 : Int32) (a2 : Nat) (uq : ∀ b c : Nat, t b = t c → t b ≠ 0 → b = c) (h0 : 0 ≤ a1.toInt) (h39 : a1.toInt ≤ 39) (k_a0 : t a0 = 3) (k_a2 : t a2 = 11) : tMx (Z := (Nat → Int32)) l yX4_put uvX4_put 2 45 D (rF cI cL cC gC gP gT gR gm gs gg gL gQ gZ gE gV gU gN) (fun z => (rF cI cL cC gC gP gT gR gm gs gg z gQ gZ gE gV gU gN)) t cI cL cC [.ref a0, .int a1, .ref a2] vL (xV (fun (z : (Nat → Int32)) => cpf gL z (6 * a1.toInt) gR 6)) := by
  refine tMx.ofW (cc := cX4_put) (maxL := 4) (ret := none) (by decide) rfl (Nat.le_of_ble_eq_true rfl) ?_
  intro p e s m below meth c hx hb hr hml hown hts hlk H locs hG hK hE hS ls hl
  have hl : lv_has ls 4 [(0, .ref a0), (1, .int a1), (2, .ref a2)] := hl
  skip
  refine lv_iconst (v := 0) hx hb dX4_put_0 (by decide) ?_
  refine lv_istore_n (lv' := [(3, .int 0), (0, .ref a0), (1, .int a1), (2, .ref a2)]) hx hb dX4_put_1 rfl hl (by decide) rfl (fun ls hl => ?_)
  refine lv_pc (pc2 := 2) rfl ?_
  refine lp_gen (fun WW1 hWW1 => ?_)
  have kx1 : ∀ (yk : Int32) (l1 : Nat → Int32) (H1 : Heap) (locs1 : List Loc) (ls1 : Array Slot), (0 ≤ yk.toInt) → (yk.toInt ≤ 6) → (cpf gL l1 (6 * a1.toInt) gR yk.toInt) → (6 ≤ yk.toInt) → tG D (rF cI cL cC gC gP gT gR gm gs gg l1 gQ gZ gE gV gU gN) t H1 → tF t vL s.heap H1 locs1 → lv_has ls1 4 [(3, .int yk), (0, .ref a0), (1, .int a1), (2, .ref a2)] → WW1 H1 locs1 (F0 m 23 ls1 []) := by
    intro yk l1 H locs ls v1_0 v1_1 v1_2 xf1_0 hG hS hl
    refine (hWW1 _ _ _).mpr ?_
    exact tx_vret (z := (l1)) hx hb hr hlk hG hS (by show cpf gL l1 (6 * a1.toInt) gR 6; exact cpf.at v1_2 (by omega)) dX4_put_23
  have lp1 : ∀ (kk1 : Nat) (yk : Int32) (l1 : Nat → Int32) (H1 : Heap) (locs1 : List Loc) (ls1 : Array Slot), 6 - yk.toInt ≤ (kk1 : Int) → (0 ≤ yk.toInt) → (yk.toInt ≤ 6) → (cpf gL l1 (6 * a1.toInt) gR yk.toInt) → tG D (rF cI cL cC gC gP gT gR gm gs gg l1 gQ gZ gE gV gU gN) t H1 → tF t vL s.heap H1 locs1 → lv_has ls1 4 [(3, .int yk), (0, .ref a0), (1, .int a1), (2, .ref a2)] → WW1 H1 locs1 (F0 m 2 ls1 []) := by
    intro kk1
    induction kk1 with
    | zero =>
      intro yk l1 H locs ls hk1 v1_0 v1_1 v1_2 hG hS hl
      refine (hWW1 _ _ _).mpr ?_
      refine lv_iload_n hx hb dX4_put_2 rfl (lv_at hl 0 rfl) ?_
      refine lv_bipush (v := 6) hx hb dX4_put_3 (by decide) ?_
      refine lv_icmp_ge (tgt := 23) hx hb dX4_put_5 (by decide) (fun c_2 => ?_) (fun c_2 => ?_)
      · skip
        have c_2 : 6 ≤ yk.toInt := q_le c_2
        exact (hWW1 _ _ _).mp (kx1 yk l1 H locs ls v1_0 v1_1 v1_2 (by omega) hG hS (lv_sub hl [0, 1, 2, 3] rfl))
      · skip
        have c_2 : yk.toInt < 6 := q_nle c_2
        exfalso; omega
    | succ kk1 ih1 =>
      intro yk l1 H locs ls hk1 v1_0 v1_1 v1_2 hG hS hl
      refine (hWW1 _ _ _).mpr ?_
      refine lv_iload_n hx hb dX4_put_2 rfl (lv_at hl 0 rfl) ?_
      refine lv_pc (pc2 := 3) rfl ?_
      refine lv_bipush (v := 6) hx hb dX4_put_3 (by decide) ?_
      refine lv_icmp_ge (tgt := 23) hx hb dX4_put_5 (by decide) (fun c_3 => ?_) (fun c_3 => ?_)
      · skip
        have c_3 : 6 ≤ yk.toInt := q_le c_3
        exact (hWW1 _ _ _).mp (kx1 yk l1 H locs ls v1_0 v1_1 v1_2 (by omega) hG hS (lv_sub hl [0, 1, 2, 3] rfl))
      · skip
        have c_3 : yk.toInt < 6 := q_nle c_3
        refine lv_aload_n hx hb dX4_put_8 rfl (lv_at hl 1 rfl) ?_
        refine lv_iload_n hx hb dX4_put_9 rfl (lv_at hl 2 rfl) ?_
        refine lv_iload_n hx hb dX4_put_10 rfl (lv_at hl 0 rfl) ?_
        refine lv_aload_n hx hb dX4_put_11 rfl (lv_at hl 3 rfl) ?_
        refine lv_iload_n hx hb dX4_put_12 rfl (lv_at hl 0 rfl) ?_
        have at_4 := rF_o11 hG k_a2
        have b_5 : vp_in yk 6 := (q_in (by omega) (by omega))
        refine va_iald hx hb hK (va_one at_4) 0 0 rfl rfl b_5 dX4_put_13 ?_
        refine lv_topi (fun x_6 e_7 => ?_)
        have w_x_6 : x_6 = gR (yk.toInt).toNat := by rw [e_7]; exact congrArg (fun q : Int => gR q.toNat) (show yk.toInt = yk.toInt by omega)
        have i_x_6 : x_6.toInt = (gR (yk.toInt).toNat).toInt := by rw [w_x_6]
        refine lv_pc (pc2 := 14) rfl ?_
        obtain ⟨r_8, r_10, r_12, at_14, h_9, h_11, h_13⟩ := rF_o3 hG k_a0
        refine tx_callv (W.runV (As := [.int a1, .int yk, .int x_6]) (rest := []) ⟨hx, hb, hml, hown, hts⟩ (v_X4_putCell l D t cI cL cC gC gP gT gR gm gs gg l1 gQ gZ gE gV gU gN a0 a1 yk x_6  uq (by omega) (by omega) (by omega) (by omega) k_a0) (cwV 3 hts gu_vX4_put_vX4_putCell_51 rfl rfl rfl (by decide +kernel) ⟨Nat.le_of_ble_eq_true rfl, Nat.le_of_ble_eq_true rfl⟩) (tP_V hG hE at_14 rfl) rfl rfl hl.1 rfl (lv_room (Nat.le_of_ble_eq_true rfl)) dX4_put_14 ⟨Nat.le_of_ble_eq_true rfl, Nat.le_of_ble_eq_true rfl⟩) hS (fun _ h => h) (fun gL_19 H locs hp_16 hG hS o_17 => ?_)
        have at_4 := va_at.keptC at_4 o_17 k_a2 rfl
        have at_14 := va_at.keptC at_14 o_17 k_a0 rfl
        replace hG : tG D (rF cI cL cC gC gP gT gR gm gs gg gL_19 gQ gZ gE gV gU gN) t H := hG
        have hp_16 : gL_19 = upd l1 (6 * a1.toInt + yk.toInt).toNat x_6 := hp_16
        have p_20 := hp_16
        obtain ⟨x_21, e_22⟩ : ∃ y : Int32, y = yk + Int32.ofInt 1 := ⟨_, rfl⟩
        have i_x_21 : x_21.toInt = yk.toInt + 1 := by rw [e_22, show Int32.ofInt 1 = 1 by decide]; exact (q_add (by rw [show (1 : Int32).toInt = 1 by decide]; omega) (by rw [show (1 : Int32).toInt = 1 by decide]; omega)).trans (by rw [show (1 : Int32).toInt = 1 by decide])
        refine lv_iinc (v := x_21) (lv' := [(3, .int x_21), (0, .ref a0), (1, .int a1), (2, .ref a2)]) hx hb dX4_put_17 hl (k := 0) rfl e_22.symm (by decide) rfl (fun ls hl => ?_)
        refine lv_goto (tgt := 2) hx hb dX4_put_20 (by decide) ?_
        exact (hWW1 _ _ _).mp (ih1 x_21 gL_19 H locs ls (by omega) (by omega) (by omega) (cpf.step v1_2 (by omega) (by omega) w_x_6 rfl p_20 (by omega)) hG hS (lv_sub hl [0, 1, 2, 3] rfl))
  have zi_0 : (0 : Int32).toInt = 0 := by decide
  exact lp1 (6 - (0 : Int32).toInt : Int).toNat 0 gL H locs ls (by omega) (by omega) (by omega) (by rw [show (0 : Int32).toInt = 0 by decide]; exact cpf.zero) hG hS (lv_sub hl [0, 1, 2, 3] rfl)

def uvX4_add : List Cond := .code yX4_add cX4_add 2 none :: ([.fieldLink RX4 21 "RiverModel$Model" "many" "I", .methodLink RX4 55 yX4_put, .instanceMethod yX4_put, .selects RX4 yX4_put yX4_put, .initialized RX4, .fieldLink RX4 28 "RiverModel$Model" "gates" "I", .fieldLink RX4 18 "RiverModel$Model" "gateItems" "[I", .initialized RX9, .static yX9_isNoStore, .fieldLink RX4 15 "RiverModel$Model" "storeItems" "[I", .fieldLink RX4 25 "RiverModel$Model" "stores" "I", .code yX4_put cX4_put 4 none, .methodLink RX4 51 yX4_putCell, .instanceMethod yX4_putCell, .selects RX4 yX4_putCell yX4_putCell, .code yX4_putCell cX4_putCell 4 none, .static yX9_isNoItem, .static yX9_isOutside, .fieldLink RX4 9 "RiverModel$Model" "cells" "[I", .code yX9_isNoItem cX9_isNoItem 1 (some .boolean), .code yX9_isOutside cX9_isOutside 3 (some .boolean), .code yX9_isNoStore cX9_isNoStore 1 (some .boolean)] ++ wsX40)
set_option maxRecDepth 20000 in
theorem gu_vX4_add_vX4_put_55 : GoodIn uvX4_add (wsV RX4 55 RX4 yX4_put uvX4_put) := goodIn_r _ [2, 3, 4, 5, 12, 13, 14, 15, 5, 16, 8, 17, 18, 19, 20, 21, 23, 24, 25, 26, 27, 28] rfl (by decide +kernel)
set_option maxRecDepth 20000 in
theorem gu_vX4_add_aX9_isNoStore_n : GoodIn uvX4_add (uaX9_isNoStore) := goodIn_r _ [22] rfl (by decide +kernel)
set_option maxHeartbeats 4000000 in
set_option maxRecDepth 100000 in
theorem v_X4_add (l : Launch) (D : va_G) (t : Nat → Nat) (cI cL cC : ClassId) (gC : Int32) (gP : Int32) (gT : Nat → Int32) (gR : Nat → Int32) (gm : Int32) (gs : Int32) (gg : Int32) (gL : Nat → Int32) (gQ : Nat → Int32) (gZ : Nat → Int32) (gE : Int32) (gV : Nat → Int32) (gU : Nat → Int32) (gN : Nat → Int32) (a0 : Nat) (a1 : Nat) (uq : ∀ b c : Nat, t b = t c → t b ≠ 0 → b = c) (hm0 : 0 ≤ gm.toInt) (hm9 : gm.toInt ≤ 39) (hg0 : 0 ≤ gg.toInt) (hg4 : gg.toInt ≤ 4) (hs0 : 0 ≤ gs.toInt) (hs9 : gs.toInt ≤ 40) (hk : (gR 0).toInt = 115 → 0 ≤ (gR 1).toInt ∧ (gR 1).toInt ≤ 15) (hkg : (gR 0).toInt = 103 → gg.toInt < 4) (k_a0 : t a0 = 3) (k_a1 : t a1 = 11) : tMx (Z := (Int32) × (Int32) × (Int32) × (Nat → Int32) × (Nat → Int32) × (Nat → Int32)) l yX4_add uvX4_add 3 68 D (rF cI cL cC gC gP gT gR gm gs gg gL gQ gZ gE gV gU gN) (fun z => (rF cI cL cC gC gP gT gR z.1 z.2.1 z.2.2.1 z.2.2.2.1 z.2.2.2.2.1 z.2.2.2.2.2 gE gV gU gN)) t cI cL cC [.ref a0, .ref a1] vM (xV (fun (z : (Int32) × (Int32) × (Int32) × (Nat → Int32) × (Nat → Int32) × (Nat → Int32)) => z.1.toInt = gm.toInt + 1 ∧ z.2.1.toInt = nextC gs.toInt (gR 0) ∧ z.2.2.1.toInt = nextG gg.toInt (gR 0) ∧ cpf gL z.2.2.2.1 (6 * gm.toInt) gR 6 ∧ z.2.2.2.2.1 = nxQ gQ (gR 0) (gR 1) gm)) := by
  refine tMx.ofW (cc := cX4_add) (maxL := 2) (ret := none) (by decide) rfl (Nat.le_of_ble_eq_true rfl) ?_
  intro p e s m below meth c hx hb hr hml hown hts hlk H locs hG hK hE hS ls hl
  have hl : lv_has ls 2 [(0, .ref a0), (1, .ref a1)] := hl
  have in4 : ∀ w ∈ wsX40, w ∈ uvX4_add := fun w h => List.mem_cons_of_mem _ (List.mem_append_right _ h)
  refine lv_aload_n hx hb dX4_add_0 rfl (lv_at hl 0 rfl) ?_
  obtain ⟨r_1, r_3, r_5, at_7, h_2, h_4, h_6⟩ := rF_o3 hG k_a0
  refine va_get (D := D) (ci := 3) (v := .int gm) (C := RX4) (T := TX4) (N := 6) hx hb hts in4 hown hK (va_one at_7) 0 rfl rfl 3 (by decide) (hts (.fieldLink RX4 21 "RiverModel$Model" "many" "I") (List.mem_of_getElem? (i := 1) rfl)) (fun _ h9 => h9) rfl dX4_add_1 ?_
  refine lv_bipush (v := 40) hx hb dX4_add_4 (by decide) ?_
  refine lv_icmp_lt (tgt := 10) hx hb dX4_add_6 (by decide) (fun c_8 => ?_) (fun c_8 => ?_)
  · skip
    have c_8 : gm.toInt < 40 := q_lt c_8
    refine lv_aload_n hx hb dX4_add_10 rfl (lv_at hl 0 rfl) ?_
    refine lv_aload_n hx hb dX4_add_11 rfl (lv_at hl 0 rfl) ?_
    refine va_get (D := D) (ci := 3) (v := .int gm) (C := RX4) (T := TX4) (N := 6) hx hb hts in4 hown hK (va_one at_7) 0 rfl rfl 3 (by decide) (hts (.fieldLink RX4 21 "RiverModel$Model" "many" "I") (List.mem_of_getElem? (i := 1) rfl)) (fun _ h9 => h9) rfl dX4_add_12 ?_
    refine lv_pc (pc2 := 15) rfl ?_
    refine lv_aload_n hx hb dX4_add_15 rfl (lv_at hl 1 rfl) ?_
    refine tx_callv (W.runV (As := [.int gm, .ref a1]) (rest := []) ⟨hx, hb, hml, hown, hts⟩ (v_X4_put l D t cI cL cC gC gP gT gR gm gs gg gL gQ gZ gE gV gU gN a0 gm a1  uq (by omega) (by omega) k_a0 k_a1) (cwV 2 hts gu_vX4_add_vX4_put_55 rfl rfl rfl (by decide +kernel) ⟨Nat.le_of_ble_eq_true rfl, Nat.le_of_ble_eq_true rfl⟩) (tP_V hG hE at_7 rfl) rfl rfl hl.1 rfl (lv_room (Nat.le_of_ble_eq_true rfl)) dX4_add_16 ⟨Nat.le_of_ble_eq_true rfl, Nat.le_of_ble_eq_true rfl⟩) hS (wrL_sub (by decide)) (fun gL_13 H locs hp_10 hG hS o_11 => ?_)
    have at_7 := va_at.keptC at_7 o_11 k_a0 rfl
    replace hG : tG D (rF cI cL cC gC gP gT gR gm gs gg gL_13 gQ gZ gE gV gU gN) t H := hG
    have hp_10 : cpf gL gL_13 (6 * gm.toInt) gR 6 := hp_10
    have p_14 := hp_10
    refine lv_aload_n hx hb dX4_add_19 rfl (lv_at hl 1 rfl) ?_
    refine lv_iconst (v := 0) hx hb dX4_add_20 (by decide) ?_
    have at_15 := rF_o11 hG k_a1
    have b_16 : vp_in 0 6 := (q_in (by decide) (by decide))
    refine va_iald hx hb hK (va_one at_15) 0 0 rfl rfl b_16 dX4_add_21 ?_
    refine lv_topi (fun x_17 e_18 => ?_)
    have w_x_17 : x_17 = gR 0 := by rw [e_18]; rfl
    have i_x_17 : x_17.toInt = (gR 0).toInt := by rw [w_x_17]
    refine lv_bipush (v := 115) hx hb dX4_add_22 (by decide) ?_
    refine lv_icmp_ne (tgt := 58) hx hb dX4_add_24 (by decide) (fun c_19 => ?_) (fun c_19 => ?_)
    · skip
      have c_19 : x_17.toInt ≠ 115 := q_ne c_19
      refine lv_aload_n hx hb dX4_add_58 rfl (lv_at hl 1 rfl) ?_
      refine lv_pc (pc2 := 59) rfl ?_
      refine lv_iconst (v := 0) hx hb dX4_add_59 (by decide) ?_
      have b_20 : vp_in 0 6 := (q_in (by decide) (by decide))
      refine va_iald hx hb hK (va_one at_15) 0 0 rfl rfl b_20 dX4_add_60 ?_
      refine lv_seti (y := x_17) e_18.symm ?_
      refine lv_bipush (v := 103) hx hb dX4_add_61 (by decide) ?_
      refine lv_icmp_ne (tgt := 97) hx hb dX4_add_63 (by decide) (fun c_21 => ?_) (fun c_21 => ?_)
      · skip
        have c_21 : x_17.toInt ≠ 103 := q_ne c_21
        refine lv_aload_n hx hb dX4_add_97 rfl (lv_at hl 0 rfl) ?_
        refine lv_dup hx hb dX4_add_98 rfl ?_
        refine va_get (D := D) (ci := 3) (v := .int gm) (C := RX4) (T := TX4) (N := 6) hx hb hts in4 hown hK (va_one at_7) 0 rfl rfl 3 (by decide) (hts (.fieldLink RX4 21 "RiverModel$Model" "many" "I") (List.mem_of_getElem? (i := 1) rfl)) (fun _ h9 => h9) rfl dX4_add_99 ?_
        refine lv_iconst (v := 1) hx hb dX4_add_102 (by decide) ?_
        refine lv_pc (pc2 := 103) rfl ?_
        refine lv_iadd hx hb dX4_add_103 ?_
        refine lv_topi (fun x_22 e_23 => ?_)
        have i_x_22 : x_22.toInt = gm.toInt + 1 := by rw [e_23]; exact (q_add (by rw [show (1 : Int32).toInt = 1 by decide]; omega) (by rw [show (1 : Int32).toInt = 1 by decide]; omega)).trans (by rw [show (1 : Int32).toInt = 1 by decide])
        refine ty_put (D := D) (ci := 3) (v := .int x_22) (ty := .int) (C := RX4) (T := TX4) (N := 6) (F2 := (rF cI cL cC gC gP gT gR x_22 gs gg gL_13 gQ gZ gE gV gU gN)) hx hb hts in4 tyX4 tyX4_ok nmX4 hown hK hG hS at_7 (by rw [k_a0]; rfl) rfl 3 (by decide) (hts (.fieldLink RX4 21 "RiverModel$Model" "many" "I") (List.mem_of_getElem? (i := 1) rfl)) (fun _ h9 => h9) rfl (by decide +kernel) rfl rfl (Nat.le_of_ble_eq_true rfl) (by rw [k_a0]; exact ⟨r_1, r_3, r_5, rfl, h_2, h_4, h_6⟩) (fun hG b hb h0 => by obtain ⟨e, g1, g2⟩ := hG b h0; exact ⟨e, g1, rF_gm (fun h => hb (uq b a0 (h.trans k_a0.symm) h0)) g2⟩) dX4_add_104 (fun H locs hG hS at_24 o_25 => ?_)
        have at_24 : va_at D vwCl (a0, .inr (3, [.ref r_1, .ref r_3, .ref r_5, .int x_22, .int gs, .int gg])) H := at_24
        have at_15 := va_at.keptK at_15 o_25 k_a0 k_a1 rfl
        exact tx_vret (z := (x_22, gs, gg, gL_13, gQ, gZ)) hx hb hr hlk hG hS ⟨(by show x_22.toInt = gm.toInt + 1; omega), (by show gs.toInt = nextC gs.toInt (gR 0); unfold nextC; first | (rw [if_pos (by omega)]; done) | (rw [if_pos (by omega)]; omega) | (rw [if_neg (by omega)]; done) | (rw [if_neg (by omega)]; omega)), (by show gg.toInt = nextG gg.toInt (gR 0); unfold nextG; first | (rw [if_pos (by omega)]; done) | (rw [if_pos (by omega)]; omega) | (rw [if_neg (by omega)]; done) | (rw [if_neg (by omega)]; omega)), (show cpf gL gL_13 (6 * gm.toInt) gR 6 from p_14), (by show gQ = nxQ gQ (gR 0) (gR 1) gm; unfold nxQ; rw [if_neg (by omega)])⟩ dX4_add_107
      · skip
        have c_21 : x_17.toInt = 103 := q_eq c_21
        refine lv_aload_n hx hb dX4_add_66 rfl (lv_at hl 0 rfl) ?_
        refine va_get (D := D) (ci := 3) (v := .int gg) (C := RX4) (T := TX4) (N := 6) hx hb hts in4 hown hK (va_one at_7) 0 rfl rfl 5 (by decide) (hts (.fieldLink RX4 28 "RiverModel$Model" "gates" "I") (List.mem_of_getElem? (i := 6) rfl)) (fun _ h9 => h9) rfl dX4_add_67 ?_
        refine lv_iconst (v := 4) hx hb dX4_add_70 (by decide) ?_
        refine lv_icmp_ge (tgt := 97) hx hb dX4_add_71 (by decide) (fun c_26 => ?_) (fun c_26 => ?_)
        · skip
          have c_26 : 4 ≤ gg.toInt := q_le c_26
          refine lv_aload_n hx hb dX4_add_97 rfl (lv_at hl 0 rfl) ?_
          refine lv_pc (pc2 := 98) rfl ?_
          refine lv_dup hx hb dX4_add_98 rfl ?_
          refine va_get (D := D) (ci := 3) (v := .int gm) (C := RX4) (T := TX4) (N := 6) hx hb hts in4 hown hK (va_one at_7) 0 rfl rfl 3 (by decide) (hts (.fieldLink RX4 21 "RiverModel$Model" "many" "I") (List.mem_of_getElem? (i := 1) rfl)) (fun _ h9 => h9) rfl dX4_add_99 ?_
          refine lv_iconst (v := 1) hx hb dX4_add_102 (by decide) ?_
          refine lv_iadd hx hb dX4_add_103 ?_
          refine lv_topi (fun x_27 e_28 => ?_)
          have i_x_27 : x_27.toInt = gm.toInt + 1 := by rw [e_28]; exact (q_add (by rw [show (1 : Int32).toInt = 1 by decide]; omega) (by rw [show (1 : Int32).toInt = 1 by decide]; omega)).trans (by rw [show (1 : Int32).toInt = 1 by decide])
          refine ty_put (D := D) (ci := 3) (v := .int x_27) (ty := .int) (C := RX4) (T := TX4) (N := 6) (F2 := (rF cI cL cC gC gP gT gR x_27 gs gg gL_13 gQ gZ gE gV gU gN)) hx hb hts in4 tyX4 tyX4_ok nmX4 hown hK hG hS at_7 (by rw [k_a0]; rfl) rfl 3 (by decide) (hts (.fieldLink RX4 21 "RiverModel$Model" "many" "I") (List.mem_of_getElem? (i := 1) rfl)) (fun _ h9 => h9) rfl (by decide +kernel) rfl rfl (Nat.le_of_ble_eq_true rfl) (by rw [k_a0]; exact ⟨r_1, r_3, r_5, rfl, h_2, h_4, h_6⟩) (fun hG b hb h0 => by obtain ⟨e, g1, g2⟩ := hG b h0; exact ⟨e, g1, rF_gm (fun h => hb (uq b a0 (h.trans k_a0.symm) h0)) g2⟩) dX4_add_104 (fun H locs hG hS at_29 o_30 => ?_)
          have at_29 : va_at D vwCl (a0, .inr (3, [.ref r_1, .ref r_3, .ref r_5, .int x_27, .int gs, .int gg])) H := at_29
          have at_15 := va_at.keptK at_15 o_30 k_a0 k_a1 rfl
          exact tx_vret (z := (x_27, gs, gg, gL_13, gQ, gZ)) hx hb hr hlk hG hS ⟨(by show x_27.toInt = gm.toInt + 1; omega), (by show gs.toInt = nextC gs.toInt (gR 0); unfold nextC; first | (rw [if_pos (by omega)]; done) | (rw [if_pos (by omega)]; omega) | (rw [if_neg (by omega)]; done) | (rw [if_neg (by omega)]; omega)), (by show gg.toInt = nextG gg.toInt (gR 0); unfold nextG; first | (rw [if_pos (by omega)]; done) | (rw [if_pos (by omega)]; omega) | (rw [if_neg (by omega)]; done) | (rw [if_neg (by omega)]; omega)), (show cpf gL gL_13 (6 * gm.toInt) gR 6 from p_14), (by show gQ = nxQ gQ (gR 0) (gR 1) gm; unfold nxQ; rw [if_neg (by omega)])⟩ dX4_add_107
        · skip
          have c_26 : gg.toInt < 4 := q_nle c_26
          refine lv_aload_n hx hb dX4_add_74 rfl (lv_at hl 0 rfl) ?_
          refine va_get (D := D) (ci := 3) (v := .ref r_5) (C := RX4) (T := TX4) (N := 6) hx hb hts in4 hown hK (va_one at_7) 0 rfl rfl 2 (by decide) (hts (.fieldLink RX4 18 "RiverModel$Model" "gateItems" "[I") (List.mem_of_getElem? (i := 7) rfl)) (fun _ h9 => h9) rfl dX4_add_75 ?_
          refine lv_pc (pc2 := 78) rfl ?_
          refine lv_aload_n hx hb dX4_add_78 rfl (lv_at hl 0 rfl) ?_
          refine va_get (D := D) (ci := 3) (v := .int gg) (C := RX4) (T := TX4) (N := 6) hx hb hts in4 hown hK (va_one at_7) 0 rfl rfl 5 (by decide) (hts (.fieldLink RX4 28 "RiverModel$Model" "gates" "I") (List.mem_of_getElem? (i := 6) rfl)) (fun _ h9 => h9) rfl dX4_add_79 ?_
          refine lv_aload_n hx hb dX4_add_82 rfl (lv_at hl 0 rfl) ?_
          refine va_get (D := D) (ci := 3) (v := .int gm) (C := RX4) (T := TX4) (N := 6) hx hb hts in4 hown hK (va_one at_7) 0 rfl rfl 3 (by decide) (hts (.fieldLink RX4 21 "RiverModel$Model" "many" "I") (List.mem_of_getElem? (i := 1) rfl)) (fun _ h9 => h9) rfl dX4_add_83 ?_
          have at_31 := rF_o14 hG h_6
          have b_32 : vp_in gg 4 := (q_in (by omega) (by omega))
          obtain ⟨q_33, eq_33⟩ : ∃ q : Nat → Int32, q = upd gZ gg.toNatClampNeg gm := ⟨_, rfl⟩
          refine ty_iast (F2 := (rF cI cL cC gC gP gT gR gm gs gg gL_13 gQ q_33 gE gV gU gN)) hx hb hK hG hS 0 at_31 (by rw [h_6]; rfl) rfl b_32 (by rw [h_6]; show _ = _; rw [eq_33]) (fun hG b hb h0 => by obtain ⟨e, g1, g2⟩ := hG b h0; exact ⟨e, g1, rF_gZ (fun h => hb (uq b r_5 (h.trans h_6.symm) h0)) g2⟩) dX4_add_86 (fun H locs hG hS at_34 o_35 => ?_)
          have at_7 := va_at.keptK at_7 o_35 h_6 k_a0 rfl
          have at_15 := va_at.keptK at_15 o_35 h_6 k_a1 rfl
          refine lv_aload_n hx hb dX4_add_87 rfl (lv_at hl 0 rfl) ?_
          refine lv_dup hx hb dX4_add_88 rfl ?_
          refine va_get (D := D) (ci := 3) (v := .int gg) (C := RX4) (T := TX4) (N := 6) hx hb hts in4 hown hK (va_one at_7) 0 rfl rfl 5 (by decide) (hts (.fieldLink RX4 28 "RiverModel$Model" "gates" "I") (List.mem_of_getElem? (i := 6) rfl)) (fun _ h9 => h9) rfl dX4_add_89 ?_
          refine lv_pc (pc2 := 92) rfl ?_
          refine lv_iconst (v := 1) hx hb dX4_add_92 (by decide) ?_
          refine lv_iadd hx hb dX4_add_93 ?_
          refine lv_topi (fun x_36 e_37 => ?_)
          have i_x_36 : x_36.toInt = gg.toInt + 1 := by rw [e_37]; exact (q_add (by rw [show (1 : Int32).toInt = 1 by decide]; omega) (by rw [show (1 : Int32).toInt = 1 by decide]; omega)).trans (by rw [show (1 : Int32).toInt = 1 by decide])
          refine ty_put (D := D) (ci := 3) (v := .int x_36) (ty := .int) (C := RX4) (T := TX4) (N := 6) (F2 := (rF cI cL cC gC gP gT gR gm gs x_36 gL_13 gQ q_33 gE gV gU gN)) hx hb hts in4 tyX4 tyX4_ok nmX4 hown hK hG hS at_7 (by rw [k_a0]; rfl) rfl 5 (by decide) (hts (.fieldLink RX4 28 "RiverModel$Model" "gates" "I") (List.mem_of_getElem? (i := 6) rfl)) (fun _ h9 => h9) rfl (by decide +kernel) rfl rfl (Nat.le_of_ble_eq_true rfl) (by rw [k_a0]; exact ⟨r_1, r_3, r_5, rfl, h_2, h_4, h_6⟩) (fun hG b hb h0 => by obtain ⟨e, g1, g2⟩ := hG b h0; exact ⟨e, g1, rF_gg (fun h => hb (uq b a0 (h.trans k_a0.symm) h0)) g2⟩) dX4_add_94 (fun H locs hG hS at_38 o_39 => ?_)
          have at_38 : va_at D vwCl (a0, .inr (3, [.ref r_1, .ref r_3, .ref r_5, .int gm, .int gs, .int x_36])) H := at_38
          have at_15 := va_at.keptK at_15 o_39 k_a0 k_a1 rfl
          refine lv_aload_n hx hb dX4_add_97 rfl (lv_at hl 0 rfl) ?_
          refine lv_dup hx hb dX4_add_98 rfl ?_
          refine va_get (D := D) (ci := 3) (v := .int gm) (C := RX4) (T := TX4) (N := 6) hx hb hts in4 hown hK (va_one at_38) 0 rfl rfl 3 (by decide) (hts (.fieldLink RX4 21 "RiverModel$Model" "many" "I") (List.mem_of_getElem? (i := 1) rfl)) (fun _ h9 => h9) rfl dX4_add_99 ?_
          refine lv_iconst (v := 1) hx hb dX4_add_102 (by decide) ?_
          refine lv_iadd hx hb dX4_add_103 ?_
          refine lv_topi (fun x_40 e_41 => ?_)
          have i_x_40 : x_40.toInt = gm.toInt + 1 := by rw [e_41]; exact (q_add (by rw [show (1 : Int32).toInt = 1 by decide]; omega) (by rw [show (1 : Int32).toInt = 1 by decide]; omega)).trans (by rw [show (1 : Int32).toInt = 1 by decide])
          refine lv_pc (pc2 := 104) rfl ?_
          refine ty_put (D := D) (ci := 3) (v := .int x_40) (ty := .int) (C := RX4) (T := TX4) (N := 6) (F2 := (rF cI cL cC gC gP gT gR x_40 gs x_36 gL_13 gQ q_33 gE gV gU gN)) hx hb hts in4 tyX4 tyX4_ok nmX4 hown hK hG hS at_38 (by rw [k_a0]; rfl) rfl 3 (by decide) (hts (.fieldLink RX4 21 "RiverModel$Model" "many" "I") (List.mem_of_getElem? (i := 1) rfl)) (fun _ h9 => h9) rfl (by decide +kernel) rfl rfl (Nat.le_of_ble_eq_true rfl) (by rw [k_a0]; exact ⟨r_1, r_3, r_5, rfl, h_2, h_4, h_6⟩) (fun hG b hb h0 => by obtain ⟨e, g1, g2⟩ := hG b h0; exact ⟨e, g1, rF_gm (fun h => hb (uq b a0 (h.trans k_a0.symm) h0)) g2⟩) dX4_add_104 (fun H locs hG hS at_42 o_43 => ?_)
          have at_42 : va_at D vwCl (a0, .inr (3, [.ref r_1, .ref r_3, .ref r_5, .int x_40, .int gs, .int x_36])) H := at_42
          have at_15 := va_at.keptK at_15 o_43 k_a0 k_a1 rfl
          exact tx_vret (z := (x_40, gs, x_36, gL_13, gQ, q_33)) hx hb hr hlk hG hS ⟨(by show x_40.toInt = gm.toInt + 1; omega), (by show gs.toInt = nextC gs.toInt (gR 0); unfold nextC; first | (rw [if_pos (by omega)]; done) | (rw [if_pos (by omega)]; omega) | (rw [if_neg (by omega)]; done) | (rw [if_neg (by omega)]; omega)), (by show x_36.toInt = nextG gg.toInt (gR 0); unfold nextG; first | (rw [if_pos (by omega)]; done) | (rw [if_pos (by omega)]; omega) | (rw [if_neg (by omega)]; done) | (rw [if_neg (by omega)]; omega)), (show cpf gL gL_13 (6 * gm.toInt) gR 6 from p_14), (by show gQ = nxQ gQ (gR 0) (gR 1) gm; unfold nxQ; rw [if_neg (by omega)])⟩ dX4_add_107
    · skip
      have c_19 : x_17.toInt = 115 := q_eq c_19
      refine lv_aload_n hx hb dX4_add_27 rfl (lv_at hl 1 rfl) ?_
      refine lv_iconst (v := 1) hx hb dX4_add_28 (by decide) ?_
      have b_44 : vp_in 1 6 := (q_in (by decide) (by decide))
      refine va_iald hx hb hK (va_one at_15) 0 0 rfl rfl b_44 dX4_add_29 ?_
      refine lv_topi (fun x_45 e_46 => ?_)
      have w_x_45 : x_45 = gR 1 := by rw [e_46]; rfl
      have i_x_45 : x_45.toInt = (gR 1).toInt := by rw [w_x_45]
      refine ty_calli (tRun (va_runSN (As := [.int x_45]) (rest := []) ⟨hx, hb, hml, hown, hts⟩ (a_X9_isNoStore l D t cI cL cC (rF cI cL cC gC gP gT gR gm gs gg gL_13 gQ gZ gE gV gU gN) x_45   ) ⟨(va_cnB 1 hts gu_vX4_add_aX9_isNoStore_n rfl rfl rfl (hE.2.1 _ (List.mem_of_getElem? (i := 10) rfl)) (hts (.initialized RX9) (List.mem_of_getElem? (i := 8) rfl)) (by decide +kernel) ⟨Nat.le_of_ble_eq_true rfl, Nat.le_of_ble_eq_true rfl⟩), (hts (.static yX9_isNoStore) (List.mem_of_getElem? (i := 9) rfl)), trivial⟩ (tP_S hG hE) rfl rfl hl.1 rfl (lv_room (Nat.le_of_ble_eq_true rfl)) dX4_add_30 ⟨Nat.le_of_ble_eq_true rfl, Nat.le_of_ble_eq_true rfl⟩)) hS (fun k h => by simp [wr0] at h) (fun r_47 H locs hp_48 hG hS o_49 => ?_)
      have at_7 := va_at.keptC at_7 o_49 k_a0 rfl
      have at_15 := va_at.keptC at_15 o_49 k_a1 rfl
      have hp_48 : (r_47 = 1 ∧ (x_45.toInt < 0 ∨ 15 < x_45.toInt)) ∨ (r_47 = 0 ∧ 0 ≤ x_45.toInt ∧ x_45.toInt ≤ 15) := hp_48
      rcases hp_48 with ⟨rfl, p_51⟩ | ⟨rfl, p_52, p_53⟩
      · skip
        refine lv_if_ne (tgt := 58) hx hb dX4_add_33 (by decide) (fun _ => ?_) (fun q => absurd q (by decide))
        refine lv_aload_n hx hb dX4_add_58 rfl (lv_at hl 1 rfl) ?_
        refine lv_pc (pc2 := 59) rfl ?_
        refine lv_iconst (v := 0) hx hb dX4_add_59 (by decide) ?_
        have b_54 : vp_in 0 6 := (q_in (by decide) (by decide))
        refine va_iald hx hb hK (va_one at_15) 0 0 rfl rfl b_54 dX4_add_60 ?_
        refine lv_seti (y := x_17) e_18.symm ?_
        refine lv_bipush (v := 103) hx hb dX4_add_61 (by decide) ?_
        refine lv_icmp_ne (tgt := 97) hx hb dX4_add_63 (by decide) (fun c_55 => ?_) (fun c_55 => ?_)
        · skip
          have c_55 : x_17.toInt ≠ 103 := q_ne c_55
          refine lv_aload_n hx hb dX4_add_97 rfl (lv_at hl 0 rfl) ?_
          refine lv_dup hx hb dX4_add_98 rfl ?_
          refine va_get (D := D) (ci := 3) (v := .int gm) (C := RX4) (T := TX4) (N := 6) hx hb hts in4 hown hK (va_one at_7) 0 rfl rfl 3 (by decide) (hts (.fieldLink RX4 21 "RiverModel$Model" "many" "I") (List.mem_of_getElem? (i := 1) rfl)) (fun _ h9 => h9) rfl dX4_add_99 ?_
          refine lv_iconst (v := 1) hx hb dX4_add_102 (by decide) ?_
          refine lv_pc (pc2 := 103) rfl ?_
          refine lv_iadd hx hb dX4_add_103 ?_
          refine lv_topi (fun x_56 e_57 => ?_)
          have i_x_56 : x_56.toInt = gm.toInt + 1 := by rw [e_57]; exact (q_add (by rw [show (1 : Int32).toInt = 1 by decide]; omega) (by rw [show (1 : Int32).toInt = 1 by decide]; omega)).trans (by rw [show (1 : Int32).toInt = 1 by decide])
          refine ty_put (D := D) (ci := 3) (v := .int x_56) (ty := .int) (C := RX4) (T := TX4) (N := 6) (F2 := (rF cI cL cC gC gP gT gR x_56 gs gg gL_13 gQ gZ gE gV gU gN)) hx hb hts in4 tyX4 tyX4_ok nmX4 hown hK hG hS at_7 (by rw [k_a0]; rfl) rfl 3 (by decide) (hts (.fieldLink RX4 21 "RiverModel$Model" "many" "I") (List.mem_of_getElem? (i := 1) rfl)) (fun _ h9 => h9) rfl (by decide +kernel) rfl rfl (Nat.le_of_ble_eq_true rfl) (by rw [k_a0]; exact ⟨r_1, r_3, r_5, rfl, h_2, h_4, h_6⟩) (fun hG b hb h0 => by obtain ⟨e, g1, g2⟩ := hG b h0; exact ⟨e, g1, rF_gm (fun h => hb (uq b a0 (h.trans k_a0.symm) h0)) g2⟩) dX4_add_104 (fun H locs hG hS at_58 o_59 => ?_)
          have at_58 : va_at D vwCl (a0, .inr (3, [.ref r_1, .ref r_3, .ref r_5, .int x_56, .int gs, .int gg])) H := at_58
          have at_15 := va_at.keptK at_15 o_59 k_a0 k_a1 rfl
          exact tx_vret (z := (x_56, gs, gg, gL_13, gQ, gZ)) hx hb hr hlk hG hS ⟨(by show x_56.toInt = gm.toInt + 1; omega), (by show gs.toInt = nextC gs.toInt (gR 0); unfold nextC; first | (rw [if_pos (by omega)]; done) | (rw [if_pos (by omega)]; omega) | (rw [if_neg (by omega)]; done) | (rw [if_neg (by omega)]; omega)), (by show gg.toInt = nextG gg.toInt (gR 0); unfold nextG; first | (rw [if_pos (by omega)]; done) | (rw [if_pos (by omega)]; omega) | (rw [if_neg (by omega)]; done) | (rw [if_neg (by omega)]; omega)), (show cpf gL gL_13 (6 * gm.toInt) gR 6 from p_14), (by show gQ = nxQ gQ (gR 0) (gR 1) gm; unfold nxQ; rw [if_neg (by omega)])⟩ dX4_add_107
        · skip
          have c_55 : x_17.toInt = 103 := q_eq c_55
          refine lv_aload_n hx hb dX4_add_66 rfl (lv_at hl 0 rfl) ?_
          refine va_get (D := D) (ci := 3) (v := .int gg) (C := RX4) (T := TX4) (N := 6) hx hb hts in4 hown hK (va_one at_7) 0 rfl rfl 5 (by decide) (hts (.fieldLink RX4 28 "RiverModel$Model" "gates" "I") (List.mem_of_getElem? (i := 6) rfl)) (fun _ h9 => h9) rfl dX4_add_67 ?_
          refine lv_iconst (v := 4) hx hb dX4_add_70 (by decide) ?_
          refine lv_icmp_ge (tgt := 97) hx hb dX4_add_71 (by decide) (fun c_60 => ?_) (fun c_60 => ?_)
          · skip
            have c_60 : 4 ≤ gg.toInt := q_le c_60
            refine lv_aload_n hx hb dX4_add_97 rfl (lv_at hl 0 rfl) ?_
            refine lv_pc (pc2 := 98) rfl ?_
            refine lv_dup hx hb dX4_add_98 rfl ?_
            refine va_get (D := D) (ci := 3) (v := .int gm) (C := RX4) (T := TX4) (N := 6) hx hb hts in4 hown hK (va_one at_7) 0 rfl rfl 3 (by decide) (hts (.fieldLink RX4 21 "RiverModel$Model" "many" "I") (List.mem_of_getElem? (i := 1) rfl)) (fun _ h9 => h9) rfl dX4_add_99 ?_
            refine lv_iconst (v := 1) hx hb dX4_add_102 (by decide) ?_
            refine lv_iadd hx hb dX4_add_103 ?_
            refine lv_topi (fun x_61 e_62 => ?_)
            have i_x_61 : x_61.toInt = gm.toInt + 1 := by rw [e_62]; exact (q_add (by rw [show (1 : Int32).toInt = 1 by decide]; omega) (by rw [show (1 : Int32).toInt = 1 by decide]; omega)).trans (by rw [show (1 : Int32).toInt = 1 by decide])
            refine ty_put (D := D) (ci := 3) (v := .int x_61) (ty := .int) (C := RX4) (T := TX4) (N := 6) (F2 := (rF cI cL cC gC gP gT gR x_61 gs gg gL_13 gQ gZ gE gV gU gN)) hx hb hts in4 tyX4 tyX4_ok nmX4 hown hK hG hS at_7 (by rw [k_a0]; rfl) rfl 3 (by decide) (hts (.fieldLink RX4 21 "RiverModel$Model" "many" "I") (List.mem_of_getElem? (i := 1) rfl)) (fun _ h9 => h9) rfl (by decide +kernel) rfl rfl (Nat.le_of_ble_eq_true rfl) (by rw [k_a0]; exact ⟨r_1, r_3, r_5, rfl, h_2, h_4, h_6⟩) (fun hG b hb h0 => by obtain ⟨e, g1, g2⟩ := hG b h0; exact ⟨e, g1, rF_gm (fun h => hb (uq b a0 (h.trans k_a0.symm) h0)) g2⟩) dX4_add_104 (fun H locs hG hS at_63 o_64 => ?_)
            have at_63 : va_at D vwCl (a0, .inr (3, [.ref r_1, .ref r_3, .ref r_5, .int x_61, .int gs, .int gg])) H := at_63
            have at_15 := va_at.keptK at_15 o_64 k_a0 k_a1 rfl
            exact tx_vret (z := (x_61, gs, gg, gL_13, gQ, gZ)) hx hb hr hlk hG hS ⟨(by show x_61.toInt = gm.toInt + 1; omega), (by show gs.toInt = nextC gs.toInt (gR 0); unfold nextC; first | (rw [if_pos (by omega)]; done) | (rw [if_pos (by omega)]; omega) | (rw [if_neg (by omega)]; done) | (rw [if_neg (by omega)]; omega)), (by show gg.toInt = nextG gg.toInt (gR 0); unfold nextG; first | (rw [if_pos (by omega)]; done) | (rw [if_pos (by omega)]; omega) | (rw [if_neg (by omega)]; done) | (rw [if_neg (by omega)]; omega)), (show cpf gL gL_13 (6 * gm.toInt) gR 6 from p_14), (by show gQ = nxQ gQ (gR 0) (gR 1) gm; unfold nxQ; rw [if_neg (by omega)])⟩ dX4_add_107
          · skip
            have c_60 : gg.toInt < 4 := q_nle c_60
            refine lv_aload_n hx hb dX4_add_74 rfl (lv_at hl 0 rfl) ?_
            refine va_get (D := D) (ci := 3) (v := .ref r_5) (C := RX4) (T := TX4) (N := 6) hx hb hts in4 hown hK (va_one at_7) 0 rfl rfl 2 (by decide) (hts (.fieldLink RX4 18 "RiverModel$Model" "gateItems" "[I") (List.mem_of_getElem? (i := 7) rfl)) (fun _ h9 => h9) rfl dX4_add_75 ?_
            refine lv_pc (pc2 := 78) rfl ?_
            refine lv_aload_n hx hb dX4_add_78 rfl (lv_at hl 0 rfl) ?_
            refine va_get (D := D) (ci := 3) (v := .int gg) (C := RX4) (T := TX4) (N := 6) hx hb hts in4 hown hK (va_one at_7) 0 rfl rfl 5 (by decide) (hts (.fieldLink RX4 28 "RiverModel$Model" "gates" "I") (List.mem_of_getElem? (i := 6) rfl)) (fun _ h9 => h9) rfl dX4_add_79 ?_
            refine lv_aload_n hx hb dX4_add_82 rfl (lv_at hl 0 rfl) ?_
            refine va_get (D := D) (ci := 3) (v := .int gm) (C := RX4) (T := TX4) (N := 6) hx hb hts in4 hown hK (va_one at_7) 0 rfl rfl 3 (by decide) (hts (.fieldLink RX4 21 "RiverModel$Model" "many" "I") (List.mem_of_getElem? (i := 1) rfl)) (fun _ h9 => h9) rfl dX4_add_83 ?_
            have at_65 := rF_o14 hG h_6
            have b_66 : vp_in gg 4 := (q_in (by omega) (by omega))
            obtain ⟨q_67, eq_67⟩ : ∃ q : Nat → Int32, q = upd gZ gg.toNatClampNeg gm := ⟨_, rfl⟩
            refine ty_iast (F2 := (rF cI cL cC gC gP gT gR gm gs gg gL_13 gQ q_67 gE gV gU gN)) hx hb hK hG hS 0 at_65 (by rw [h_6]; rfl) rfl b_66 (by rw [h_6]; show _ = _; rw [eq_67]) (fun hG b hb h0 => by obtain ⟨e, g1, g2⟩ := hG b h0; exact ⟨e, g1, rF_gZ (fun h => hb (uq b r_5 (h.trans h_6.symm) h0)) g2⟩) dX4_add_86 (fun H locs hG hS at_68 o_69 => ?_)
            have at_7 := va_at.keptK at_7 o_69 h_6 k_a0 rfl
            have at_15 := va_at.keptK at_15 o_69 h_6 k_a1 rfl
            refine lv_aload_n hx hb dX4_add_87 rfl (lv_at hl 0 rfl) ?_
            refine lv_dup hx hb dX4_add_88 rfl ?_
            refine va_get (D := D) (ci := 3) (v := .int gg) (C := RX4) (T := TX4) (N := 6) hx hb hts in4 hown hK (va_one at_7) 0 rfl rfl 5 (by decide) (hts (.fieldLink RX4 28 "RiverModel$Model" "gates" "I") (List.mem_of_getElem? (i := 6) rfl)) (fun _ h9 => h9) rfl dX4_add_89 ?_
            refine lv_pc (pc2 := 92) rfl ?_
            refine lv_iconst (v := 1) hx hb dX4_add_92 (by decide) ?_
            refine lv_iadd hx hb dX4_add_93 ?_
            refine lv_topi (fun x_70 e_71 => ?_)
            have i_x_70 : x_70.toInt = gg.toInt + 1 := by rw [e_71]; exact (q_add (by rw [show (1 : Int32).toInt = 1 by decide]; omega) (by rw [show (1 : Int32).toInt = 1 by decide]; omega)).trans (by rw [show (1 : Int32).toInt = 1 by decide])
            refine ty_put (D := D) (ci := 3) (v := .int x_70) (ty := .int) (C := RX4) (T := TX4) (N := 6) (F2 := (rF cI cL cC gC gP gT gR gm gs x_70 gL_13 gQ q_67 gE gV gU gN)) hx hb hts in4 tyX4 tyX4_ok nmX4 hown hK hG hS at_7 (by rw [k_a0]; rfl) rfl 5 (by decide) (hts (.fieldLink RX4 28 "RiverModel$Model" "gates" "I") (List.mem_of_getElem? (i := 6) rfl)) (fun _ h9 => h9) rfl (by decide +kernel) rfl rfl (Nat.le_of_ble_eq_true rfl) (by rw [k_a0]; exact ⟨r_1, r_3, r_5, rfl, h_2, h_4, h_6⟩) (fun hG b hb h0 => by obtain ⟨e, g1, g2⟩ := hG b h0; exact ⟨e, g1, rF_gg (fun h => hb (uq b a0 (h.trans k_a0.symm) h0)) g2⟩) dX4_add_94 (fun H locs hG hS at_72 o_73 => ?_)
            have at_72 : va_at D vwCl (a0, .inr (3, [.ref r_1, .ref r_3, .ref r_5, .int gm, .int gs, .int x_70])) H := at_72
            have at_15 := va_at.keptK at_15 o_73 k_a0 k_a1 rfl
            refine lv_aload_n hx hb dX4_add_97 rfl (lv_at hl 0 rfl) ?_
            refine lv_dup hx hb dX4_add_98 rfl ?_
            refine va_get (D := D) (ci := 3) (v := .int gm) (C := RX4) (T := TX4) (N := 6) hx hb hts in4 hown hK (va_one at_72) 0 rfl rfl 3 (by decide) (hts (.fieldLink RX4 21 "RiverModel$Model" "many" "I") (List.mem_of_getElem? (i := 1) rfl)) (fun _ h9 => h9) rfl dX4_add_99 ?_
            refine lv_iconst (v := 1) hx hb dX4_add_102 (by decide) ?_
            refine lv_iadd hx hb dX4_add_103 ?_
            refine lv_topi (fun x_74 e_75 => ?_)
            have i_x_74 : x_74.toInt = gm.toInt + 1 := by rw [e_75]; exact (q_add (by rw [show (1 : Int32).toInt = 1 by decide]; omega) (by rw [show (1 : Int32).toInt = 1 by decide]; omega)).trans (by rw [show (1 : Int32).toInt = 1 by decide])
            refine lv_pc (pc2 := 104) rfl ?_
            refine ty_put (D := D) (ci := 3) (v := .int x_74) (ty := .int) (C := RX4) (T := TX4) (N := 6) (F2 := (rF cI cL cC gC gP gT gR x_74 gs x_70 gL_13 gQ q_67 gE gV gU gN)) hx hb hts in4 tyX4 tyX4_ok nmX4 hown hK hG hS at_72 (by rw [k_a0]; rfl) rfl 3 (by decide) (hts (.fieldLink RX4 21 "RiverModel$Model" "many" "I") (List.mem_of_getElem? (i := 1) rfl)) (fun _ h9 => h9) rfl (by decide +kernel) rfl rfl (Nat.le_of_ble_eq_true rfl) (by rw [k_a0]; exact ⟨r_1, r_3, r_5, rfl, h_2, h_4, h_6⟩) (fun hG b hb h0 => by obtain ⟨e, g1, g2⟩ := hG b h0; exact ⟨e, g1, rF_gm (fun h => hb (uq b a0 (h.trans k_a0.symm) h0)) g2⟩) dX4_add_104 (fun H locs hG hS at_76 o_77 => ?_)
            have at_76 : va_at D vwCl (a0, .inr (3, [.ref r_1, .ref r_3, .ref r_5, .int x_74, .int gs, .int x_70])) H := at_76
            have at_15 := va_at.keptK at_15 o_77 k_a0 k_a1 rfl
            exact tx_vret (z := (x_74, gs, x_70, gL_13, gQ, q_67)) hx hb hr hlk hG hS ⟨(by show x_74.toInt = gm.toInt + 1; omega), (by show gs.toInt = nextC gs.toInt (gR 0); unfold nextC; first | (rw [if_pos (by omega)]; done) | (rw [if_pos (by omega)]; omega) | (rw [if_neg (by omega)]; done) | (rw [if_neg (by omega)]; omega)), (by show x_70.toInt = nextG gg.toInt (gR 0); unfold nextG; first | (rw [if_pos (by omega)]; done) | (rw [if_pos (by omega)]; omega) | (rw [if_neg (by omega)]; done) | (rw [if_neg (by omega)]; omega)), (show cpf gL gL_13 (6 * gm.toInt) gR 6 from p_14), (by show gQ = nxQ gQ (gR 0) (gR 1) gm; unfold nxQ; rw [if_neg (by omega)])⟩ dX4_add_107
      · skip
        refine lv_if_ne (tgt := 58) hx hb dX4_add_33 (by decide) (fun q => absurd rfl q) (fun _ => ?_)
        refine lv_aload_n hx hb dX4_add_36 rfl (lv_at hl 0 rfl) ?_
        refine va_get (D := D) (ci := 3) (v := .ref r_3) (C := RX4) (T := TX4) (N := 6) hx hb hts in4 hown hK (va_one at_7) 0 rfl rfl 1 (by decide) (hts (.fieldLink RX4 15 "RiverModel$Model" "storeItems" "[I") (List.mem_of_getElem? (i := 10) rfl)) (fun _ h9 => h9) rfl dX4_add_37 ?_
        refine lv_aload_n hx hb dX4_add_40 rfl (lv_at hl 1 rfl) ?_
        refine lv_iconst (v := 1) hx hb dX4_add_41 (by decide) ?_
        have b_78 : vp_in 1 6 := (q_in (by decide) (by decide))
        refine va_iald hx hb hK (va_one at_15) 0 0 rfl rfl b_78 dX4_add_42 ?_
        refine lv_seti (y := x_45) e_46.symm ?_
        refine lv_pc (pc2 := 43) rfl ?_
        refine lv_aload_n hx hb dX4_add_43 rfl (lv_at hl 0 rfl) ?_
        refine va_get (D := D) (ci := 3) (v := .int gm) (C := RX4) (T := TX4) (N := 6) hx hb hts in4 hown hK (va_one at_7) 0 rfl rfl 3 (by decide) (hts (.fieldLink RX4 21 "RiverModel$Model" "many" "I") (List.mem_of_getElem? (i := 1) rfl)) (fun _ h9 => h9) rfl dX4_add_44 ?_
        have at_79 := rF_o13 hG h_4
        have b_80 : vp_in x_45 16 := (q_in (by omega) (by omega))
        obtain ⟨q_81, eq_81⟩ : ∃ q : Nat → Int32, q = upd gQ x_45.toNatClampNeg gm := ⟨_, rfl⟩
        refine ty_iast (F2 := (rF cI cL cC gC gP gT gR gm gs gg gL_13 q_81 gZ gE gV gU gN)) hx hb hK hG hS 0 at_79 (by rw [h_4]; rfl) rfl b_80 (by rw [h_4]; show _ = _; rw [eq_81]) (fun hG b hb h0 => by obtain ⟨e, g1, g2⟩ := hG b h0; exact ⟨e, g1, rF_gQ (fun h => hb (uq b r_3 (h.trans h_4.symm) h0)) g2⟩) dX4_add_47 (fun H locs hG hS at_82 o_83 => ?_)
        have at_7 := va_at.keptK at_7 o_83 h_4 k_a0 rfl
        have at_15 := va_at.keptK at_15 o_83 h_4 k_a1 rfl
        refine lv_aload_n hx hb dX4_add_48 rfl (lv_at hl 0 rfl) ?_
        refine lv_dup hx hb dX4_add_49 rfl ?_
        refine va_get (D := D) (ci := 3) (v := .int gs) (C := RX4) (T := TX4) (N := 6) hx hb hts in4 hown hK (va_one at_7) 0 rfl rfl 4 (by decide) (hts (.fieldLink RX4 25 "RiverModel$Model" "stores" "I") (List.mem_of_getElem? (i := 11) rfl)) (fun _ h9 => h9) rfl dX4_add_50 ?_
        refine lv_iconst (v := 1) hx hb dX4_add_53 (by decide) ?_
        refine lv_iadd hx hb dX4_add_54 ?_
        refine lv_topi (fun x_84 e_85 => ?_)
        have i_x_84 : x_84.toInt = gs.toInt + 1 := by rw [e_85]; exact (q_add (by rw [show (1 : Int32).toInt = 1 by decide]; omega) (by rw [show (1 : Int32).toInt = 1 by decide]; omega)).trans (by rw [show (1 : Int32).toInt = 1 by decide])
        refine lv_pc (pc2 := 55) rfl ?_
        refine ty_put (D := D) (ci := 3) (v := .int x_84) (ty := .int) (C := RX4) (T := TX4) (N := 6) (F2 := (rF cI cL cC gC gP gT gR gm x_84 gg gL_13 q_81 gZ gE gV gU gN)) hx hb hts in4 tyX4 tyX4_ok nmX4 hown hK hG hS at_7 (by rw [k_a0]; rfl) rfl 4 (by decide) (hts (.fieldLink RX4 25 "RiverModel$Model" "stores" "I") (List.mem_of_getElem? (i := 11) rfl)) (fun _ h9 => h9) rfl (by decide +kernel) rfl rfl (Nat.le_of_ble_eq_true rfl) (by rw [k_a0]; exact ⟨r_1, r_3, r_5, rfl, h_2, h_4, h_6⟩) (fun hG b hb h0 => by obtain ⟨e, g1, g2⟩ := hG b h0; exact ⟨e, g1, rF_gs (fun h => hb (uq b a0 (h.trans k_a0.symm) h0)) g2⟩) dX4_add_55 (fun H locs hG hS at_86 o_87 => ?_)
        have at_86 : va_at D vwCl (a0, .inr (3, [.ref r_1, .ref r_3, .ref r_5, .int gm, .int x_84, .int gg])) H := at_86
        have at_15 := va_at.keptK at_15 o_87 k_a0 k_a1 rfl
        refine lv_aload_n hx hb dX4_add_58 rfl (lv_at hl 1 rfl) ?_
        refine lv_iconst (v := 0) hx hb dX4_add_59 (by decide) ?_
        have b_88 : vp_in 0 6 := (q_in (by decide) (by decide))
        refine va_iald hx hb hK (va_one at_15) 0 0 rfl rfl b_88 dX4_add_60 ?_
        refine lv_seti (y := x_17) e_18.symm ?_
        refine lv_bipush (v := 103) hx hb dX4_add_61 (by decide) ?_
        refine lv_icmp_ne (tgt := 97) hx hb dX4_add_63 (by decide) (fun c_89 => ?_) (fun c_89 => ?_)
        · skip
          have c_89 : x_17.toInt ≠ 103 := q_ne c_89
          refine lv_aload_n hx hb dX4_add_97 rfl (lv_at hl 0 rfl) ?_
          refine lv_dup hx hb dX4_add_98 rfl ?_
          refine lv_pc (pc2 := 99) rfl ?_
          refine va_get (D := D) (ci := 3) (v := .int gm) (C := RX4) (T := TX4) (N := 6) hx hb hts in4 hown hK (va_one at_86) 0 rfl rfl 3 (by decide) (hts (.fieldLink RX4 21 "RiverModel$Model" "many" "I") (List.mem_of_getElem? (i := 1) rfl)) (fun _ h9 => h9) rfl dX4_add_99 ?_
          refine lv_iconst (v := 1) hx hb dX4_add_102 (by decide) ?_
          refine lv_iadd hx hb dX4_add_103 ?_
          refine lv_topi (fun x_90 e_91 => ?_)
          have i_x_90 : x_90.toInt = gm.toInt + 1 := by rw [e_91]; exact (q_add (by rw [show (1 : Int32).toInt = 1 by decide]; omega) (by rw [show (1 : Int32).toInt = 1 by decide]; omega)).trans (by rw [show (1 : Int32).toInt = 1 by decide])
          refine ty_put (D := D) (ci := 3) (v := .int x_90) (ty := .int) (C := RX4) (T := TX4) (N := 6) (F2 := (rF cI cL cC gC gP gT gR x_90 x_84 gg gL_13 q_81 gZ gE gV gU gN)) hx hb hts in4 tyX4 tyX4_ok nmX4 hown hK hG hS at_86 (by rw [k_a0]; rfl) rfl 3 (by decide) (hts (.fieldLink RX4 21 "RiverModel$Model" "many" "I") (List.mem_of_getElem? (i := 1) rfl)) (fun _ h9 => h9) rfl (by decide +kernel) rfl rfl (Nat.le_of_ble_eq_true rfl) (by rw [k_a0]; exact ⟨r_1, r_3, r_5, rfl, h_2, h_4, h_6⟩) (fun hG b hb h0 => by obtain ⟨e, g1, g2⟩ := hG b h0; exact ⟨e, g1, rF_gm (fun h => hb (uq b a0 (h.trans k_a0.symm) h0)) g2⟩) dX4_add_104 (fun H locs hG hS at_92 o_93 => ?_)
          have at_92 : va_at D vwCl (a0, .inr (3, [.ref r_1, .ref r_3, .ref r_5, .int x_90, .int x_84, .int gg])) H := at_92
          have at_15 := va_at.keptK at_15 o_93 k_a0 k_a1 rfl
          exact tx_vret (z := (x_90, x_84, gg, gL_13, q_81, gZ)) hx hb hr hlk hG hS ⟨(by show x_90.toInt = gm.toInt + 1; omega), (by show x_84.toInt = nextC gs.toInt (gR 0); unfold nextC; first | (rw [if_pos (by omega)]; done) | (rw [if_pos (by omega)]; omega) | (rw [if_neg (by omega)]; done) | (rw [if_neg (by omega)]; omega)), (by show gg.toInt = nextG gg.toInt (gR 0); unfold nextG; first | (rw [if_pos (by omega)]; done) | (rw [if_pos (by omega)]; omega) | (rw [if_neg (by omega)]; done) | (rw [if_neg (by omega)]; omega)), (show cpf gL gL_13 (6 * gm.toInt) gR 6 from p_14), (by show q_81 = nxQ gQ (gR 0) (gR 1) gm; unfold nxQ; rw [if_pos (by omega), eq_81, w_x_45]; rfl)⟩ dX4_add_107
        · skip
          have c_89 : x_17.toInt = 103 := q_eq c_89
          refine lv_aload_n hx hb dX4_add_66 rfl (lv_at hl 0 rfl) ?_
          refine va_get (D := D) (ci := 3) (v := .int gg) (C := RX4) (T := TX4) (N := 6) hx hb hts in4 hown hK (va_one at_86) 0 rfl rfl 5 (by decide) (hts (.fieldLink RX4 28 "RiverModel$Model" "gates" "I") (List.mem_of_getElem? (i := 6) rfl)) (fun _ h9 => h9) rfl dX4_add_67 ?_
          refine lv_iconst (v := 4) hx hb dX4_add_70 (by decide) ?_
          refine lv_pc (pc2 := 71) rfl ?_
          refine lv_icmp_ge (tgt := 97) hx hb dX4_add_71 (by decide) (fun c_94 => ?_) (fun c_94 => ?_)
          · skip
            have c_94 : 4 ≤ gg.toInt := q_le c_94
            refine lv_aload_n hx hb dX4_add_97 rfl (lv_at hl 0 rfl) ?_
            refine lv_dup hx hb dX4_add_98 rfl ?_
            refine va_get (D := D) (ci := 3) (v := .int gm) (C := RX4) (T := TX4) (N := 6) hx hb hts in4 hown hK (va_one at_86) 0 rfl rfl 3 (by decide) (hts (.fieldLink RX4 21 "RiverModel$Model" "many" "I") (List.mem_of_getElem? (i := 1) rfl)) (fun _ h9 => h9) rfl dX4_add_99 ?_
            refine lv_iconst (v := 1) hx hb dX4_add_102 (by decide) ?_
            refine lv_iadd hx hb dX4_add_103 ?_
            refine lv_topi (fun x_95 e_96 => ?_)
            have i_x_95 : x_95.toInt = gm.toInt + 1 := by rw [e_96]; exact (q_add (by rw [show (1 : Int32).toInt = 1 by decide]; omega) (by rw [show (1 : Int32).toInt = 1 by decide]; omega)).trans (by rw [show (1 : Int32).toInt = 1 by decide])
            refine ty_put (D := D) (ci := 3) (v := .int x_95) (ty := .int) (C := RX4) (T := TX4) (N := 6) (F2 := (rF cI cL cC gC gP gT gR x_95 x_84 gg gL_13 q_81 gZ gE gV gU gN)) hx hb hts in4 tyX4 tyX4_ok nmX4 hown hK hG hS at_86 (by rw [k_a0]; rfl) rfl 3 (by decide) (hts (.fieldLink RX4 21 "RiverModel$Model" "many" "I") (List.mem_of_getElem? (i := 1) rfl)) (fun _ h9 => h9) rfl (by decide +kernel) rfl rfl (Nat.le_of_ble_eq_true rfl) (by rw [k_a0]; exact ⟨r_1, r_3, r_5, rfl, h_2, h_4, h_6⟩) (fun hG b hb h0 => by obtain ⟨e, g1, g2⟩ := hG b h0; exact ⟨e, g1, rF_gm (fun h => hb (uq b a0 (h.trans k_a0.symm) h0)) g2⟩) dX4_add_104 (fun H locs hG hS at_97 o_98 => ?_)
            have at_97 : va_at D vwCl (a0, .inr (3, [.ref r_1, .ref r_3, .ref r_5, .int x_95, .int x_84, .int gg])) H := at_97
            have at_15 := va_at.keptK at_15 o_98 k_a0 k_a1 rfl
            exact tx_vret (z := (x_95, x_84, gg, gL_13, q_81, gZ)) hx hb hr hlk hG hS ⟨(by show x_95.toInt = gm.toInt + 1; omega), (by show x_84.toInt = nextC gs.toInt (gR 0); unfold nextC; first | (rw [if_pos (by omega)]; done) | (rw [if_pos (by omega)]; omega) | (rw [if_neg (by omega)]; done) | (rw [if_neg (by omega)]; omega)), (by show gg.toInt = nextG gg.toInt (gR 0); unfold nextG; first | (rw [if_pos (by omega)]; done) | (rw [if_pos (by omega)]; omega) | (rw [if_neg (by omega)]; done) | (rw [if_neg (by omega)]; omega)), (show cpf gL gL_13 (6 * gm.toInt) gR 6 from p_14), (by show q_81 = nxQ gQ (gR 0) (gR 1) gm; unfold nxQ; rw [if_pos (by omega), eq_81, w_x_45]; rfl)⟩ dX4_add_107
          · skip
            have c_94 : gg.toInt < 4 := q_nle c_94
            refine lv_pc (pc2 := 74) rfl ?_
            refine lv_aload_n hx hb dX4_add_74 rfl (lv_at hl 0 rfl) ?_
            refine va_get (D := D) (ci := 3) (v := .ref r_5) (C := RX4) (T := TX4) (N := 6) hx hb hts in4 hown hK (va_one at_86) 0 rfl rfl 2 (by decide) (hts (.fieldLink RX4 18 "RiverModel$Model" "gateItems" "[I") (List.mem_of_getElem? (i := 7) rfl)) (fun _ h9 => h9) rfl dX4_add_75 ?_
            refine lv_aload_n hx hb dX4_add_78 rfl (lv_at hl 0 rfl) ?_
            refine va_get (D := D) (ci := 3) (v := .int gg) (C := RX4) (T := TX4) (N := 6) hx hb hts in4 hown hK (va_one at_86) 0 rfl rfl 5 (by decide) (hts (.fieldLink RX4 28 "RiverModel$Model" "gates" "I") (List.mem_of_getElem? (i := 6) rfl)) (fun _ h9 => h9) rfl dX4_add_79 ?_
            refine lv_aload_n hx hb dX4_add_82 rfl (lv_at hl 0 rfl) ?_
            refine va_get (D := D) (ci := 3) (v := .int gm) (C := RX4) (T := TX4) (N := 6) hx hb hts in4 hown hK (va_one at_86) 0 rfl rfl 3 (by decide) (hts (.fieldLink RX4 21 "RiverModel$Model" "many" "I") (List.mem_of_getElem? (i := 1) rfl)) (fun _ h9 => h9) rfl dX4_add_83 ?_
            have at_99 := rF_o14 hG h_6
            have b_100 : vp_in gg 4 := (q_in (by omega) (by omega))
            obtain ⟨q_101, eq_101⟩ : ∃ q : Nat → Int32, q = upd gZ gg.toNatClampNeg gm := ⟨_, rfl⟩
            refine ty_iast (F2 := (rF cI cL cC gC gP gT gR gm x_84 gg gL_13 q_81 q_101 gE gV gU gN)) hx hb hK hG hS 0 at_99 (by rw [h_6]; rfl) rfl b_100 (by rw [h_6]; show _ = _; rw [eq_101]) (fun hG b hb h0 => by obtain ⟨e, g1, g2⟩ := hG b h0; exact ⟨e, g1, rF_gZ (fun h => hb (uq b r_5 (h.trans h_6.symm) h0)) g2⟩) dX4_add_86 (fun H locs hG hS at_102 o_103 => ?_)
            have at_86 := va_at.keptK at_86 o_103 h_6 k_a0 rfl
            have at_15 := va_at.keptK at_15 o_103 h_6 k_a1 rfl
            refine lv_aload_n hx hb dX4_add_87 rfl (lv_at hl 0 rfl) ?_
            refine lv_pc (pc2 := 88) rfl ?_
            refine lv_dup hx hb dX4_add_88 rfl ?_
            refine va_get (D := D) (ci := 3) (v := .int gg) (C := RX4) (T := TX4) (N := 6) hx hb hts in4 hown hK (va_one at_86) 0 rfl rfl 5 (by decide) (hts (.fieldLink RX4 28 "RiverModel$Model" "gates" "I") (List.mem_of_getElem? (i := 6) rfl)) (fun _ h9 => h9) rfl dX4_add_89 ?_
            refine lv_iconst (v := 1) hx hb dX4_add_92 (by decide) ?_
            refine lv_iadd hx hb dX4_add_93 ?_
            refine lv_topi (fun x_104 e_105 => ?_)
            have i_x_104 : x_104.toInt = gg.toInt + 1 := by rw [e_105]; exact (q_add (by rw [show (1 : Int32).toInt = 1 by decide]; omega) (by rw [show (1 : Int32).toInt = 1 by decide]; omega)).trans (by rw [show (1 : Int32).toInt = 1 by decide])
            refine ty_put (D := D) (ci := 3) (v := .int x_104) (ty := .int) (C := RX4) (T := TX4) (N := 6) (F2 := (rF cI cL cC gC gP gT gR gm x_84 x_104 gL_13 q_81 q_101 gE gV gU gN)) hx hb hts in4 tyX4 tyX4_ok nmX4 hown hK hG hS at_86 (by rw [k_a0]; rfl) rfl 5 (by decide) (hts (.fieldLink RX4 28 "RiverModel$Model" "gates" "I") (List.mem_of_getElem? (i := 6) rfl)) (fun _ h9 => h9) rfl (by decide +kernel) rfl rfl (Nat.le_of_ble_eq_true rfl) (by rw [k_a0]; exact ⟨r_1, r_3, r_5, rfl, h_2, h_4, h_6⟩) (fun hG b hb h0 => by obtain ⟨e, g1, g2⟩ := hG b h0; exact ⟨e, g1, rF_gg (fun h => hb (uq b a0 (h.trans k_a0.symm) h0)) g2⟩) dX4_add_94 (fun H locs hG hS at_106 o_107 => ?_)
            have at_106 : va_at D vwCl (a0, .inr (3, [.ref r_1, .ref r_3, .ref r_5, .int gm, .int x_84, .int x_104])) H := at_106
            have at_15 := va_at.keptK at_15 o_107 k_a0 k_a1 rfl
            refine lv_aload_n hx hb dX4_add_97 rfl (lv_at hl 0 rfl) ?_
            refine lv_dup hx hb dX4_add_98 rfl ?_
            refine va_get (D := D) (ci := 3) (v := .int gm) (C := RX4) (T := TX4) (N := 6) hx hb hts in4 hown hK (va_one at_106) 0 rfl rfl 3 (by decide) (hts (.fieldLink RX4 21 "RiverModel$Model" "many" "I") (List.mem_of_getElem? (i := 1) rfl)) (fun _ h9 => h9) rfl dX4_add_99 ?_
            refine lv_pc (pc2 := 102) rfl ?_
            refine lv_iconst (v := 1) hx hb dX4_add_102 (by decide) ?_
            refine lv_iadd hx hb dX4_add_103 ?_
            refine lv_topi (fun x_108 e_109 => ?_)
            have i_x_108 : x_108.toInt = gm.toInt + 1 := by rw [e_109]; exact (q_add (by rw [show (1 : Int32).toInt = 1 by decide]; omega) (by rw [show (1 : Int32).toInt = 1 by decide]; omega)).trans (by rw [show (1 : Int32).toInt = 1 by decide])
            refine ty_put (D := D) (ci := 3) (v := .int x_108) (ty := .int) (C := RX4) (T := TX4) (N := 6) (F2 := (rF cI cL cC gC gP gT gR x_108 x_84 x_104 gL_13 q_81 q_101 gE gV gU gN)) hx hb hts in4 tyX4 tyX4_ok nmX4 hown hK hG hS at_106 (by rw [k_a0]; rfl) rfl 3 (by decide) (hts (.fieldLink RX4 21 "RiverModel$Model" "many" "I") (List.mem_of_getElem? (i := 1) rfl)) (fun _ h9 => h9) rfl (by decide +kernel) rfl rfl (Nat.le_of_ble_eq_true rfl) (by rw [k_a0]; exact ⟨r_1, r_3, r_5, rfl, h_2, h_4, h_6⟩) (fun hG b hb h0 => by obtain ⟨e, g1, g2⟩ := hG b h0; exact ⟨e, g1, rF_gm (fun h => hb (uq b a0 (h.trans k_a0.symm) h0)) g2⟩) dX4_add_104 (fun H locs hG hS at_110 o_111 => ?_)
            have at_110 : va_at D vwCl (a0, .inr (3, [.ref r_1, .ref r_3, .ref r_5, .int x_108, .int x_84, .int x_104])) H := at_110
            have at_15 := va_at.keptK at_15 o_111 k_a0 k_a1 rfl
            exact tx_vret (z := (x_108, x_84, x_104, gL_13, q_81, q_101)) hx hb hr hlk hG hS ⟨(by show x_108.toInt = gm.toInt + 1; omega), (by show x_84.toInt = nextC gs.toInt (gR 0); unfold nextC; first | (rw [if_pos (by omega)]; done) | (rw [if_pos (by omega)]; omega) | (rw [if_neg (by omega)]; done) | (rw [if_neg (by omega)]; omega)), (by show x_104.toInt = nextG gg.toInt (gR 0); unfold nextG; first | (rw [if_pos (by omega)]; done) | (rw [if_pos (by omega)]; omega) | (rw [if_neg (by omega)]; done) | (rw [if_neg (by omega)]; omega)), (show cpf gL gL_13 (6 * gm.toInt) gR 6 from p_14), (by show q_81 = nxQ gQ (gR 0) (gR 1) gm; unfold nxQ; rw [if_pos (by omega), eq_81, w_x_45]; rfl)⟩ dX4_add_107
  · skip
    have c_8 : 40 ≤ gm.toInt := q_nlt c_8
    exact tx_vret (z := (gm, gs, gg, gL, gQ, gZ)) hx hb hr hlk hG hS ⟨(by show gm.toInt = gm.toInt + 1; omega), (by show gs.toInt = nextC gs.toInt (gR 0); unfold nextC; first | (rw [if_pos (by omega)]; done) | (rw [if_pos (by omega)]; omega) | (rw [if_neg (by omega)]; done) | (rw [if_neg (by omega)]; omega)), (by show gg.toInt = nextG gg.toInt (gR 0); unfold nextG; first | (rw [if_pos (by omega)]; done) | (rw [if_pos (by omega)]; omega) | (rw [if_neg (by omega)]; done) | (rw [if_neg (by omega)]; omega)), (by exfalso; omega), (by show gQ = nxQ gQ (gR 0) (gR 1) gm; unfold nxQ; rw [if_neg (by omega)])⟩ dX4_add_9
