theorem dX2_namesOf_0 : decode cX2_namesOf 0 = .ok (.iload_n 0, 1) := by decide +kernel
theorem dX2_namesOf_1 : decode cX2_namesOf 1 = .ok (.tableswitch 107 101 122 #[105, 107, 103, 107, 107, 107, 107, 103, 103, 105, 103, 107, 107, 105, 105, 103, 107, 107, 107, 107, 107, 105], 103) := by decide +kernel
theorem dX2_namesOf_104 : decode cX2_namesOf 104 = .ok (.iconst 2, 1) := by decide +kernel
theorem dX2_namesOf_105 : decode cX2_namesOf 105 = .ok (.ireturn, 1) := by decide +kernel
theorem dX2_namesOf_106 : decode cX2_namesOf 106 = .ok (.iconst 1, 1) := by decide +kernel
theorem dX2_namesOf_107 : decode cX2_namesOf 107 = .ok (.ireturn, 1) := by decide +kernel
theorem dX2_namesOf_108 : decode cX2_namesOf 108 = .ok (.iconst 0, 1) := by decide +kernel
theorem dX2_namesOf_109 : decode cX2_namesOf 109 = .ok (.ireturn, 1) := by decide +kernel
theorem dX2_numbersOf_0 : decode cX2_numbersOf 0 = .ok (.iload_n 0, 1) := by decide +kernel
theorem dX2_numbersOf_1 : decode cX2_numbersOf 1 = .ok (.tableswitch 85 101 116 #[83, 85, 83, 85, 85, 85, 85, 79, 83, 83, 85, 85, 85, 83, 81, 83], 79) := by decide +kernel
theorem dX2_numbersOf_80 : decode cX2_numbersOf 80 = .ok (.iconst 3, 1) := by decide +kernel
theorem dX2_numbersOf_81 : decode cX2_numbersOf 81 = .ok (.ireturn, 1) := by decide +kernel
theorem dX2_numbersOf_82 : decode cX2_numbersOf 82 = .ok (.iconst 2, 1) := by decide +kernel
theorem dX2_numbersOf_83 : decode cX2_numbersOf 83 = .ok (.ireturn, 1) := by decide +kernel
theorem dX2_numbersOf_84 : decode cX2_numbersOf 84 = .ok (.iconst 1, 1) := by decide +kernel
theorem dX2_numbersOf_85 : decode cX2_numbersOf 85 = .ok (.ireturn, 1) := by decide +kernel
theorem dX2_numbersOf_86 : decode cX2_numbersOf 86 = .ok (.iconst 0, 1) := by decide +kernel
theorem dX2_numbersOf_87 : decode cX2_numbersOf 87 = .ok (.ireturn, 1) := by decide +kernel
theorem dX2_areNumbersAsTold_0 : decode cX2_areNumbersAsTold 0 = .ok (.iload_n 0, 1) := by decide +kernel
theorem dX2_areNumbersAsTold_1 : decode cX2_areNumbersAsTold 1 = .ok (.tableswitch 184 101 116 #[141, 184, 149, 184, 184, 184, 184, 103, 141, 177, 184, 184, 184, 177, 79, 157], 79) := by decide +kernel
theorem dX2_areNumbersAsTold_80 : decode cX2_areNumbersAsTold 80 = .ok (.iload_n 1, 1) := by decide +kernel
theorem dX2_areNumbersAsTold_81 : decode cX2_areNumbersAsTold 81 = .ok (.ldc 9, 2) := by decide +kernel
theorem dX2_areNumbersAsTold_83 : decode cX2_areNumbersAsTold 83 = .ok (.invokestatic 10, 3) := by decide +kernel
theorem dX2_areNumbersAsTold_86 : decode cX2_areNumbersAsTold 86 = .ok (.ifCond .eq 16, 3) := by decide +kernel
theorem dX2_areNumbersAsTold_89 : decode cX2_areNumbersAsTold 89 = .ok (.iload_n 2, 1) := by decide +kernel
theorem dX2_areNumbersAsTold_90 : decode cX2_areNumbersAsTold 90 = .ok (.ldc 9, 2) := by decide +kernel
theorem dX2_areNumbersAsTold_92 : decode cX2_areNumbersAsTold 92 = .ok (.invokestatic 10, 3) := by decide +kernel
theorem dX2_areNumbersAsTold_95 : decode cX2_areNumbersAsTold 95 = .ok (.ifCond .eq 7, 3) := by decide +kernel
theorem dX2_areNumbersAsTold_98 : decode cX2_areNumbersAsTold 98 = .ok (.iconst 1, 1) := by decide +kernel
theorem dX2_areNumbersAsTold_99 : decode cX2_areNumbersAsTold 99 = .ok (.goto 4, 3) := by decide +kernel
theorem dX2_areNumbersAsTold_102 : decode cX2_areNumbersAsTold 102 = .ok (.iconst 0, 1) := by decide +kernel
theorem dX2_areNumbersAsTold_103 : decode cX2_areNumbersAsTold 103 = .ok (.ireturn, 1) := by decide +kernel
theorem dX2_areNumbersAsTold_104 : decode cX2_areNumbersAsTold 104 = .ok (.iload_n 2, 1) := by decide +kernel
theorem dX2_areNumbersAsTold_105 : decode cX2_areNumbersAsTold 105 = .ok (.iconst 1, 1) := by decide +kernel
theorem dX2_areNumbersAsTold_106 : decode cX2_areNumbersAsTold 106 = .ok (.if_icmp .lt 34, 3) := by decide +kernel
theorem dX2_areNumbersAsTold_109 : decode cX2_areNumbersAsTold 109 = .ok (.iload_n 2, 1) := by decide +kernel
theorem dX2_areNumbersAsTold_110 : decode cX2_areNumbersAsTold 110 = .ok (.sipush 1000, 3) := by decide +kernel
theorem dX2_areNumbersAsTold_113 : decode cX2_areNumbersAsTold 113 = .ok (.invokestatic 10, 3) := by decide +kernel
theorem dX2_areNumbersAsTold_116 : decode cX2_areNumbersAsTold 116 = .ok (.ifCond .eq 24, 3) := by decide +kernel
theorem dX2_areNumbersAsTold_119 : decode cX2_areNumbersAsTold 119 = .ok (.iload_n 1, 1) := by decide +kernel
theorem dX2_areNumbersAsTold_120 : decode cX2_areNumbersAsTold 120 = .ok (.iload_n 2, 1) := by decide +kernel
theorem dX2_areNumbersAsTold_121 : decode cX2_areNumbersAsTold 121 = .ok (.invokestatic 10, 3) := by decide +kernel
theorem dX2_areNumbersAsTold_124 : decode cX2_areNumbersAsTold 124 = .ok (.ifCond .eq 16, 3) := by decide +kernel
theorem dX2_areNumbersAsTold_127 : decode cX2_areNumbersAsTold 127 = .ok (.iload_n 3, 1) := by decide +kernel
theorem dX2_areNumbersAsTold_128 : decode cX2_areNumbersAsTold 128 = .ok (.ldc 9, 2) := by decide +kernel
theorem dX2_areNumbersAsTold_130 : decode cX2_areNumbersAsTold 130 = .ok (.invokestatic 10, 3) := by decide +kernel
theorem dX2_areNumbersAsTold_133 : decode cX2_areNumbersAsTold 133 = .ok (.ifCond .eq 7, 3) := by decide +kernel
theorem dX2_areNumbersAsTold_136 : decode cX2_areNumbersAsTold 136 = .ok (.iconst 1, 1) := by decide +kernel
theorem dX2_areNumbersAsTold_137 : decode cX2_areNumbersAsTold 137 = .ok (.goto 4, 3) := by decide +kernel
theorem dX2_areNumbersAsTold_140 : decode cX2_areNumbersAsTold 140 = .ok (.iconst 0, 1) := by decide +kernel
theorem dX2_areNumbersAsTold_141 : decode cX2_areNumbersAsTold 141 = .ok (.ireturn, 1) := by decide +kernel
theorem dX2_areNumbersAsTold_142 : decode cX2_areNumbersAsTold 142 = .ok (.iload_n 1, 1) := by decide +kernel
theorem dX2_areNumbersAsTold_143 : decode cX2_areNumbersAsTold 143 = .ok (.sipush 1000, 3) := by decide +kernel
theorem dX2_areNumbersAsTold_146 : decode cX2_areNumbersAsTold 146 = .ok (.invokestatic 10, 3) := by decide +kernel
theorem dX2_areNumbersAsTold_149 : decode cX2_areNumbersAsTold 149 = .ok (.ireturn, 1) := by decide +kernel
theorem dX2_areNumbersAsTold_150 : decode cX2_areNumbersAsTold 150 = .ok (.iload_n 1, 1) := by decide +kernel
theorem dX2_areNumbersAsTold_151 : decode cX2_areNumbersAsTold 151 = .ok (.sipush 10000, 3) := by decide +kernel
theorem dX2_areNumbersAsTold_154 : decode cX2_areNumbersAsTold 154 = .ok (.invokestatic 10, 3) := by decide +kernel
theorem dX2_areNumbersAsTold_157 : decode cX2_areNumbersAsTold 157 = .ok (.ireturn, 1) := by decide +kernel
theorem dX2_areNumbersAsTold_158 : decode cX2_areNumbersAsTold 158 = .ok (.iload_n 1, 1) := by decide +kernel
theorem dX2_areNumbersAsTold_159 : decode cX2_areNumbersAsTold 159 = .ok (.iconst 1, 1) := by decide +kernel
theorem dX2_areNumbersAsTold_160 : decode cX2_areNumbersAsTold 160 = .ok (.if_icmp .lt 16, 3) := by decide +kernel
theorem dX2_areNumbersAsTold_163 : decode cX2_areNumbersAsTold 163 = .ok (.iload_n 1, 1) := by decide +kernel
theorem dX2_areNumbersAsTold_164 : decode cX2_areNumbersAsTold 164 = .ok (.bipush 12, 2) := by decide +kernel
theorem dX2_areNumbersAsTold_166 : decode cX2_areNumbersAsTold 166 = .ok (.invokestatic 10, 3) := by decide +kernel
theorem dX2_areNumbersAsTold_169 : decode cX2_areNumbersAsTold 169 = .ok (.ifCond .eq 7, 3) := by decide +kernel
theorem dX2_areNumbersAsTold_172 : decode cX2_areNumbersAsTold 172 = .ok (.iconst 1, 1) := by decide +kernel
theorem dX2_areNumbersAsTold_173 : decode cX2_areNumbersAsTold 173 = .ok (.goto 4, 3) := by decide +kernel
theorem dX2_areNumbersAsTold_176 : decode cX2_areNumbersAsTold 176 = .ok (.iconst 0, 1) := by decide +kernel
theorem dX2_areNumbersAsTold_177 : decode cX2_areNumbersAsTold 177 = .ok (.ireturn, 1) := by decide +kernel
theorem dX2_areNumbersAsTold_178 : decode cX2_areNumbersAsTold 178 = .ok (.iload_n 1, 1) := by decide +kernel
theorem dX2_areNumbersAsTold_179 : decode cX2_areNumbersAsTold 179 = .ok (.bipush 100, 2) := by decide +kernel
theorem dX2_areNumbersAsTold_181 : decode cX2_areNumbersAsTold 181 = .ok (.invokestatic 10, 3) := by decide +kernel
theorem dX2_areNumbersAsTold_184 : decode cX2_areNumbersAsTold 184 = .ok (.ireturn, 1) := by decide +kernel
theorem dX2_areNumbersAsTold_185 : decode cX2_areNumbersAsTold 185 = .ok (.iconst 1, 1) := by decide +kernel
theorem dX2_areNumbersAsTold_186 : decode cX2_areNumbersAsTold 186 = .ok (.ireturn, 1) := by decide +kernel
theorem dX2_isUpTo_0 : decode cX2_isUpTo 0 = .ok (.iload_n 0, 1) := by decide +kernel
theorem dX2_isUpTo_1 : decode cX2_isUpTo 1 = .ok (.ifCond .lt 12, 3) := by decide +kernel
theorem dX2_isUpTo_4 : decode cX2_isUpTo 4 = .ok (.iload_n 0, 1) := by decide +kernel
theorem dX2_isUpTo_5 : decode cX2_isUpTo 5 = .ok (.iload_n 1, 1) := by decide +kernel
theorem dX2_isUpTo_6 : decode cX2_isUpTo 6 = .ok (.if_icmp .gt 7, 3) := by decide +kernel
theorem dX2_isUpTo_9 : decode cX2_isUpTo 9 = .ok (.iconst 1, 1) := by decide +kernel
theorem dX2_isUpTo_10 : decode cX2_isUpTo 10 = .ok (.goto 4, 3) := by decide +kernel
theorem dX2_isUpTo_13 : decode cX2_isUpTo 13 = .ok (.iconst 0, 1) := by decide +kernel
theorem dX2_isUpTo_14 : decode cX2_isUpTo 14 = .ok (.ireturn, 1) := by decide +kernel
theorem dX4_cell_0 : decode cX4_cell 0 = .ok (.iload_n 1, 1) := by decide +kernel
theorem dX4_cell_1 : decode cX4_cell 1 = .ok (.ifCond .lt 19, 3) := by decide +kernel
theorem dX4_cell_4 : decode cX4_cell 4 = .ok (.iload_n 1, 1) := by decide +kernel
theorem dX4_cell_5 : decode cX4_cell 5 = .ok (.bipush 40, 2) := by decide +kernel
theorem dX4_cell_7 : decode cX4_cell 7 = .ok (.if_icmp .ge 13, 3) := by decide +kernel
theorem dX4_cell_10 : decode cX4_cell 10 = .ok (.iload_n 2, 1) := by decide +kernel
theorem dX4_cell_11 : decode cX4_cell 11 = .ok (.ifCond .lt 9, 3) := by decide +kernel
theorem dX4_cell_14 : decode cX4_cell 14 = .ok (.iload_n 2, 1) := by decide +kernel
theorem dX4_cell_15 : decode cX4_cell 15 = .ok (.bipush 6, 2) := by decide +kernel
theorem dX4_cell_17 : decode cX4_cell 17 = .ok (.if_icmp .lt 8, 3) := by decide +kernel
theorem dX4_cell_20 : decode cX4_cell 20 = .ok (.bipush (-4), 2) := by decide +kernel
theorem dX4_cell_22 : decode cX4_cell 22 = .ok (.goto 14, 3) := by decide +kernel
theorem dX4_cell_25 : decode cX4_cell 25 = .ok (.aload_n 0, 1) := by decide +kernel
theorem dX4_cell_26 : decode cX4_cell 26 = .ok (.getfield 9, 3) := by decide +kernel
theorem dX4_cell_29 : decode cX4_cell 29 = .ok (.iload_n 1, 1) := by decide +kernel
theorem dX4_cell_30 : decode cX4_cell 30 = .ok (.bipush 6, 2) := by decide +kernel
theorem dX4_cell_32 : decode cX4_cell 32 = .ok (.imul, 1) := by decide +kernel
theorem dX4_cell_33 : decode cX4_cell 33 = .ok (.iload_n 2, 1) := by decide +kernel
theorem dX4_cell_34 : decode cX4_cell 34 = .ok (.iadd, 1) := by decide +kernel
theorem dX4_cell_35 : decode cX4_cell 35 = .ok (.iaload, 1) := by decide +kernel
theorem dX4_cell_36 : decode cX4_cell 36 = .ok (.ireturn, 1) := by decide +kernel
theorem dX4_putCell_0 : decode cX4_putCell 0 = .ok (.iload_n 1, 1) := by decide +kernel
theorem dX4_putCell_1 : decode cX4_putCell 1 = .ok (.invokestatic 43, 3) := by decide +kernel
theorem dX4_putCell_4 : decode cX4_putCell 4 = .ok (.ifCond .ne 24, 3) := by decide +kernel
theorem dX4_putCell_7 : decode cX4_putCell 7 = .ok (.iload_n 2, 1) := by decide +kernel
theorem dX4_putCell_8 : decode cX4_putCell 8 = .ok (.iconst 0, 1) := by decide +kernel
theorem dX4_putCell_9 : decode cX4_putCell 9 = .ok (.iconst 5, 1) := by decide +kernel
theorem dX4_putCell_10 : decode cX4_putCell 10 = .ok (.invokestatic 47, 3) := by decide +kernel
theorem dX4_putCell_13 : decode cX4_putCell 13 = .ok (.ifCond .ne 15, 3) := by decide +kernel
theorem dX4_putCell_16 : decode cX4_putCell 16 = .ok (.aload_n 0, 1) := by decide +kernel
theorem dX4_putCell_17 : decode cX4_putCell 17 = .ok (.getfield 9, 3) := by decide +kernel
theorem dX4_putCell_20 : decode cX4_putCell 20 = .ok (.iload_n 1, 1) := by decide +kernel
theorem dX4_putCell_21 : decode cX4_putCell 21 = .ok (.bipush 6, 2) := by decide +kernel
theorem dX4_putCell_23 : decode cX4_putCell 23 = .ok (.imul, 1) := by decide +kernel
theorem dX4_putCell_24 : decode cX4_putCell 24 = .ok (.iload_n 2, 1) := by decide +kernel
theorem dX4_putCell_25 : decode cX4_putCell 25 = .ok (.iadd, 1) := by decide +kernel
theorem dX4_putCell_26 : decode cX4_putCell 26 = .ok (.iload_n 3, 1) := by decide +kernel
theorem dX4_putCell_27 : decode cX4_putCell 27 = .ok (.iastore, 1) := by decide +kernel
theorem dX4_putCell_28 : decode cX4_putCell 28 = .ok (.return_, 1) := by decide +kernel
theorem dX4_put_0 : decode cX4_put 0 = .ok (.iconst 0, 1) := by decide +kernel
theorem dX4_put_1 : decode cX4_put 1 = .ok (.istore_n 3, 1) := by decide +kernel
theorem dX4_put_2 : decode cX4_put 2 = .ok (.iload_n 3, 1) := by decide +kernel
theorem dX4_put_3 : decode cX4_put 3 = .ok (.bipush 6, 2) := by decide +kernel
theorem dX4_put_5 : decode cX4_put 5 = .ok (.if_icmp .ge 18, 3) := by decide +kernel
theorem dX4_put_8 : decode cX4_put 8 = .ok (.aload_n 0, 1) := by decide +kernel
theorem dX4_put_9 : decode cX4_put 9 = .ok (.iload_n 1, 1) := by decide +kernel
theorem dX4_put_10 : decode cX4_put 10 = .ok (.iload_n 3, 1) := by decide +kernel
theorem dX4_put_11 : decode cX4_put 11 = .ok (.aload_n 2, 1) := by decide +kernel
theorem dX4_put_12 : decode cX4_put 12 = .ok (.iload_n 3, 1) := by decide +kernel
theorem dX4_put_13 : decode cX4_put 13 = .ok (.iaload, 1) := by decide +kernel
theorem dX4_put_14 : decode cX4_put 14 = .ok (.invokevirtual 51, 3) := by decide +kernel
theorem dX4_put_17 : decode cX4_put 17 = .ok (.iinc 3 1, 3) := by decide +kernel
theorem dX4_put_20 : decode cX4_put 20 = .ok (.goto (-18), 3) := by decide +kernel
theorem dX4_put_23 : decode cX4_put 23 = .ok (.return_, 1) := by decide +kernel
theorem dX4_add_0 : decode cX4_add 0 = .ok (.aload_n 0, 1) := by decide +kernel
theorem dX4_add_1 : decode cX4_add 1 = .ok (.getfield 21, 3) := by decide +kernel
theorem dX4_add_4 : decode cX4_add 4 = .ok (.bipush 40, 2) := by decide +kernel
theorem dX4_add_6 : decode cX4_add 6 = .ok (.if_icmp .lt 4, 3) := by decide +kernel
theorem dX4_add_9 : decode cX4_add 9 = .ok (.return_, 1) := by decide +kernel
theorem dX4_add_10 : decode cX4_add 10 = .ok (.aload_n 0, 1) := by decide +kernel
theorem dX4_add_11 : decode cX4_add 11 = .ok (.aload_n 0, 1) := by decide +kernel
theorem dX4_add_12 : decode cX4_add 12 = .ok (.getfield 21, 3) := by decide +kernel
theorem dX4_add_15 : decode cX4_add 15 = .ok (.aload_n 1, 1) := by decide +kernel
theorem dX4_add_16 : decode cX4_add 16 = .ok (.invokevirtual 55, 3) := by decide +kernel
theorem dX4_add_19 : decode cX4_add 19 = .ok (.aload_n 1, 1) := by decide +kernel
theorem dX4_add_20 : decode cX4_add 20 = .ok (.iconst 0, 1) := by decide +kernel
theorem dX4_add_21 : decode cX4_add 21 = .ok (.iaload, 1) := by decide +kernel
theorem dX4_add_22 : decode cX4_add 22 = .ok (.bipush 115, 2) := by decide +kernel
theorem dX4_add_24 : decode cX4_add 24 = .ok (.if_icmp .ne 34, 3) := by decide +kernel
theorem dX4_add_27 : decode cX4_add 27 = .ok (.aload_n 1, 1) := by decide +kernel
theorem dX4_add_28 : decode cX4_add 28 = .ok (.iconst 1, 1) := by decide +kernel
theorem dX4_add_29 : decode cX4_add 29 = .ok (.iaload, 1) := by decide +kernel
theorem dX4_add_30 : decode cX4_add 30 = .ok (.invokestatic 59, 3) := by decide +kernel
theorem dX4_add_33 : decode cX4_add 33 = .ok (.ifCond .ne 25, 3) := by decide +kernel
theorem dX4_add_36 : decode cX4_add 36 = .ok (.aload_n 0, 1) := by decide +kernel
theorem dX4_add_37 : decode cX4_add 37 = .ok (.getfield 15, 3) := by decide +kernel
theorem dX4_add_40 : decode cX4_add 40 = .ok (.aload_n 1, 1) := by decide +kernel
theorem dX4_add_41 : decode cX4_add 41 = .ok (.iconst 1, 1) := by decide +kernel
theorem dX4_add_42 : decode cX4_add 42 = .ok (.iaload, 1) := by decide +kernel
theorem dX4_add_43 : decode cX4_add 43 = .ok (.aload_n 0, 1) := by decide +kernel
theorem dX4_add_44 : decode cX4_add 44 = .ok (.getfield 21, 3) := by decide +kernel
theorem dX4_add_47 : decode cX4_add 47 = .ok (.iastore, 1) := by decide +kernel
theorem dX4_add_48 : decode cX4_add 48 = .ok (.aload_n 0, 1) := by decide +kernel
theorem dX4_add_49 : decode cX4_add 49 = .ok (.dup, 1) := by decide +kernel
theorem dX4_add_50 : decode cX4_add 50 = .ok (.getfield 25, 3) := by decide +kernel
theorem dX4_add_53 : decode cX4_add 53 = .ok (.iconst 1, 1) := by decide +kernel
theorem dX4_add_54 : decode cX4_add 54 = .ok (.iadd, 1) := by decide +kernel
theorem dX4_add_55 : decode cX4_add 55 = .ok (.putfield 25, 3) := by decide +kernel
theorem dX4_add_58 : decode cX4_add 58 = .ok (.aload_n 1, 1) := by decide +kernel
theorem dX4_add_59 : decode cX4_add 59 = .ok (.iconst 0, 1) := by decide +kernel
theorem dX4_add_60 : decode cX4_add 60 = .ok (.iaload, 1) := by decide +kernel
theorem dX4_add_61 : decode cX4_add 61 = .ok (.bipush 103, 2) := by decide +kernel
theorem dX4_add_63 : decode cX4_add 63 = .ok (.if_icmp .ne 34, 3) := by decide +kernel
theorem dX4_add_66 : decode cX4_add 66 = .ok (.aload_n 0, 1) := by decide +kernel
theorem dX4_add_67 : decode cX4_add 67 = .ok (.getfield 28, 3) := by decide +kernel
theorem dX4_add_70 : decode cX4_add 70 = .ok (.iconst 4, 1) := by decide +kernel
theorem dX4_add_71 : decode cX4_add 71 = .ok (.if_icmp .ge 26, 3) := by decide +kernel
theorem dX4_add_74 : decode cX4_add 74 = .ok (.aload_n 0, 1) := by decide +kernel
theorem dX4_add_75 : decode cX4_add 75 = .ok (.getfield 18, 3) := by decide +kernel
theorem dX4_add_78 : decode cX4_add 78 = .ok (.aload_n 0, 1) := by decide +kernel
theorem dX4_add_79 : decode cX4_add 79 = .ok (.getfield 28, 3) := by decide +kernel
theorem dX4_add_82 : decode cX4_add 82 = .ok (.aload_n 0, 1) := by decide +kernel
theorem dX4_add_83 : decode cX4_add 83 = .ok (.getfield 21, 3) := by decide +kernel
theorem dX4_add_86 : decode cX4_add 86 = .ok (.iastore, 1) := by decide +kernel
theorem dX4_add_87 : decode cX4_add 87 = .ok (.aload_n 0, 1) := by decide +kernel
theorem dX4_add_88 : decode cX4_add 88 = .ok (.dup, 1) := by decide +kernel
theorem dX4_add_89 : decode cX4_add 89 = .ok (.getfield 28, 3) := by decide +kernel
theorem dX4_add_92 : decode cX4_add 92 = .ok (.iconst 1, 1) := by decide +kernel
theorem dX4_add_93 : decode cX4_add 93 = .ok (.iadd, 1) := by decide +kernel
theorem dX4_add_94 : decode cX4_add 94 = .ok (.putfield 28, 3) := by decide +kernel
theorem dX4_add_97 : decode cX4_add 97 = .ok (.aload_n 0, 1) := by decide +kernel
theorem dX4_add_98 : decode cX4_add 98 = .ok (.dup, 1) := by decide +kernel
theorem dX4_add_99 : decode cX4_add 99 = .ok (.getfield 21, 3) := by decide +kernel
theorem dX4_add_102 : decode cX4_add 102 = .ok (.iconst 1, 1) := by decide +kernel
theorem dX4_add_103 : decode cX4_add 103 = .ok (.iadd, 1) := by decide +kernel
theorem dX4_add_104 : decode cX4_add 104 = .ok (.putfield 21, 3) := by decide +kernel
theorem dX4_add_107 : decode cX4_add 107 = .ok (.return_, 1) := by decide +kernel
theorem dX4_mayFollow_0 : decode cX4_mayFollow 0 = .ok (.aload_n 1, 1) := by decide +kernel
theorem dX4_mayFollow_1 : decode cX4_mayFollow 1 = .ok (.iconst 0, 1) := by decide +kernel
theorem dX4_mayFollow_2 : decode cX4_mayFollow 2 = .ok (.iaload, 1) := by decide +kernel
theorem dX4_mayFollow_3 : decode cX4_mayFollow 3 = .ok (.bipush 115, 2) := by decide +kernel
theorem dX4_mayFollow_5 : decode cX4_mayFollow 5 = .ok (.if_icmp .ne 26, 3) := by decide +kernel
theorem dX4_mayFollow_8 : decode cX4_mayFollow 8 = .ok (.aload_n 1, 1) := by decide +kernel
theorem dX4_mayFollow_9 : decode cX4_mayFollow 9 = .ok (.invokestatic 62, 3) := by decide +kernel
theorem dX4_mayFollow_12 : decode cX4_mayFollow 12 = .ok (.ifCond .eq 17, 3) := by decide +kernel
theorem dX4_mayFollow_15 : decode cX4_mayFollow 15 = .ok (.aload_n 0, 1) := by decide +kernel
theorem dX4_mayFollow_16 : decode cX4_mayFollow 16 = .ok (.aload_n 1, 1) := by decide +kernel
theorem dX4_mayFollow_17 : decode cX4_mayFollow 17 = .ok (.iconst 1, 1) := by decide +kernel
theorem dX4_mayFollow_18 : decode cX4_mayFollow 18 = .ok (.iaload, 1) := by decide +kernel
theorem dX4_mayFollow_19 : decode cX4_mayFollow 19 = .ok (.invokevirtual 66, 3) := by decide +kernel
theorem dX4_mayFollow_22 : decode cX4_mayFollow 22 = .ok (.ifCond .ne 7, 3) := by decide +kernel
theorem dX4_mayFollow_25 : decode cX4_mayFollow 25 = .ok (.iconst 1, 1) := by decide +kernel
theorem dX4_mayFollow_26 : decode cX4_mayFollow 26 = .ok (.goto 4, 3) := by decide +kernel
theorem dX4_mayFollow_29 : decode cX4_mayFollow 29 = .ok (.iconst 0, 1) := by decide +kernel
theorem dX4_mayFollow_30 : decode cX4_mayFollow 30 = .ok (.ireturn, 1) := by decide +kernel
theorem dX4_mayFollow_31 : decode cX4_mayFollow 31 = .ok (.aload_n 1, 1) := by decide +kernel
theorem dX4_mayFollow_32 : decode cX4_mayFollow 32 = .ok (.invokestatic 62, 3) := by decide +kernel
theorem dX4_mayFollow_35 : decode cX4_mayFollow 35 = .ok (.ifCond .eq 35, 3) := by decide +kernel
theorem dX4_mayFollow_38 : decode cX4_mayFollow 38 = .ok (.aload_n 0, 1) := by decide +kernel
theorem dX4_mayFollow_39 : decode cX4_mayFollow 39 = .ok (.aload_n 1, 1) := by decide +kernel
theorem dX4_mayFollow_40 : decode cX4_mayFollow 40 = .ok (.aload_n 0, 1) := by decide +kernel
theorem dX4_mayFollow_41 : decode cX4_mayFollow 41 = .ok (.getfield 21, 3) := by decide +kernel
theorem dX4_mayFollow_44 : decode cX4_mayFollow 44 = .ok (.invokevirtual 69, 3) := by decide +kernel
theorem dX4_mayFollow_47 : decode cX4_mayFollow 47 = .ok (.ifCond .eq 23, 3) := by decide +kernel
theorem dX4_mayFollow_50 : decode cX4_mayFollow 50 = .ok (.aload_n 1, 1) := by decide +kernel
theorem dX4_mayFollow_51 : decode cX4_mayFollow 51 = .ok (.iconst 0, 1) := by decide +kernel
theorem dX4_mayFollow_52 : decode cX4_mayFollow 52 = .ok (.iaload, 1) := by decide +kernel
theorem dX4_mayFollow_53 : decode cX4_mayFollow 53 = .ok (.bipush 103, 2) := by decide +kernel
theorem dX4_mayFollow_55 : decode cX4_mayFollow 55 = .ok (.if_icmp .ne 11, 3) := by decide +kernel
theorem dX4_mayFollow_58 : decode cX4_mayFollow 58 = .ok (.aload_n 0, 1) := by decide +kernel
theorem dX4_mayFollow_59 : decode cX4_mayFollow 59 = .ok (.getfield 28, 3) := by decide +kernel
theorem dX4_mayFollow_62 : decode cX4_mayFollow 62 = .ok (.iconst 4, 1) := by decide +kernel
theorem dX4_mayFollow_63 : decode cX4_mayFollow 63 = .ok (.if_icmp .ge 7, 3) := by decide +kernel
theorem dX4_mayFollow_66 : decode cX4_mayFollow 66 = .ok (.iconst 1, 1) := by decide +kernel
theorem dX4_mayFollow_67 : decode cX4_mayFollow 67 = .ok (.goto 4, 3) := by decide +kernel
theorem dX4_mayFollow_70 : decode cX4_mayFollow 70 = .ok (.iconst 0, 1) := by decide +kernel
theorem dX4_mayFollow_71 : decode cX4_mayFollow 71 = .ok (.ireturn, 1) := by decide +kernel
theorem dX4_mayReplace_0 : decode cX4_mayReplace 0 = .ok (.aload_n 0, 1) := by decide +kernel
theorem dX4_mayReplace_1 : decode cX4_mayReplace 1 = .ok (.iload_n 1, 1) := by decide +kernel
theorem dX4_mayReplace_2 : decode cX4_mayReplace 2 = .ok (.iconst 0, 1) := by decide +kernel
theorem dX4_mayReplace_3 : decode cX4_mayReplace 3 = .ok (.invokevirtual 73, 3) := by decide +kernel
theorem dX4_mayReplace_6 : decode cX4_mayReplace 6 = .ok (.istore_n 3, 1) := by decide +kernel
theorem dX4_mayReplace_7 : decode cX4_mayReplace 7 = .ok (.iload_n 3, 1) := by decide +kernel
theorem dX4_mayReplace_8 : decode cX4_mayReplace 8 = .ok (.bipush 115, 2) := by decide +kernel
theorem dX4_mayReplace_10 : decode cX4_mayReplace 10 = .ok (.if_icmp .eq 11, 3) := by decide +kernel
theorem dX4_mayReplace_13 : decode cX4_mayReplace 13 = .ok (.aload_n 2, 1) := by decide +kernel
theorem dX4_mayReplace_14 : decode cX4_mayReplace 14 = .ok (.iconst 0, 1) := by decide +kernel
theorem dX4_mayReplace_15 : decode cX4_mayReplace 15 = .ok (.iaload, 1) := by decide +kernel
theorem dX4_mayReplace_16 : decode cX4_mayReplace 16 = .ok (.bipush 115, 2) := by decide +kernel
theorem dX4_mayReplace_18 : decode cX4_mayReplace 18 = .ok (.if_icmp .ne 35, 3) := by decide +kernel
theorem dX4_mayReplace_21 : decode cX4_mayReplace 21 = .ok (.aload_n 2, 1) := by decide +kernel
theorem dX4_mayReplace_22 : decode cX4_mayReplace 22 = .ok (.invokestatic 62, 3) := by decide +kernel
theorem dX4_mayReplace_25 : decode cX4_mayReplace 25 = .ok (.ifCond .eq 26, 3) := by decide +kernel
theorem dX4_mayReplace_28 : decode cX4_mayReplace 28 = .ok (.iload_n 3, 1) := by decide +kernel
theorem dX4_mayReplace_29 : decode cX4_mayReplace 29 = .ok (.aload_n 2, 1) := by decide +kernel
theorem dX4_mayReplace_30 : decode cX4_mayReplace 30 = .ok (.iconst 0, 1) := by decide +kernel
theorem dX4_mayReplace_31 : decode cX4_mayReplace 31 = .ok (.iaload, 1) := by decide +kernel
theorem dX4_mayReplace_32 : decode cX4_mayReplace 32 = .ok (.if_icmp .ne 19, 3) := by decide +kernel
theorem dX4_mayReplace_35 : decode cX4_mayReplace 35 = .ok (.aload_n 0, 1) := by decide +kernel
theorem dX4_mayReplace_36 : decode cX4_mayReplace 36 = .ok (.iload_n 1, 1) := by decide +kernel
theorem dX4_mayReplace_37 : decode cX4_mayReplace 37 = .ok (.iconst 1, 1) := by decide +kernel
theorem dX4_mayReplace_38 : decode cX4_mayReplace 38 = .ok (.invokevirtual 73, 3) := by decide +kernel
theorem dX4_mayReplace_41 : decode cX4_mayReplace 41 = .ok (.aload_n 2, 1) := by decide +kernel
theorem dX4_mayReplace_42 : decode cX4_mayReplace 42 = .ok (.iconst 1, 1) := by decide +kernel
theorem dX4_mayReplace_43 : decode cX4_mayReplace 43 = .ok (.iaload, 1) := by decide +kernel
theorem dX4_mayReplace_44 : decode cX4_mayReplace 44 = .ok (.if_icmp .ne 7, 3) := by decide +kernel
theorem dX4_mayReplace_47 : decode cX4_mayReplace 47 = .ok (.iconst 1, 1) := by decide +kernel
theorem dX4_mayReplace_48 : decode cX4_mayReplace 48 = .ok (.goto 4, 3) := by decide +kernel
theorem dX4_mayReplace_51 : decode cX4_mayReplace 51 = .ok (.iconst 0, 1) := by decide +kernel
theorem dX4_mayReplace_52 : decode cX4_mayReplace 52 = .ok (.ireturn, 1) := by decide +kernel
theorem dX4_mayReplace_53 : decode cX4_mayReplace 53 = .ok (.aload_n 2, 1) := by decide +kernel
theorem dX4_mayReplace_54 : decode cX4_mayReplace 54 = .ok (.invokestatic 62, 3) := by decide +kernel
theorem dX4_mayReplace_57 : decode cX4_mayReplace 57 = .ok (.ifCond .eq 43, 3) := by decide +kernel
theorem dX4_mayReplace_60 : decode cX4_mayReplace 60 = .ok (.aload_n 0, 1) := by decide +kernel
theorem dX4_mayReplace_61 : decode cX4_mayReplace 61 = .ok (.aload_n 2, 1) := by decide +kernel
theorem dX4_mayReplace_62 : decode cX4_mayReplace 62 = .ok (.iload_n 1, 1) := by decide +kernel
theorem dX4_mayReplace_63 : decode cX4_mayReplace 63 = .ok (.invokevirtual 69, 3) := by decide +kernel
theorem dX4_mayReplace_66 : decode cX4_mayReplace 66 = .ok (.ifCond .eq 34, 3) := by decide +kernel
theorem dX4_mayReplace_69 : decode cX4_mayReplace 69 = .ok (.iload_n 3, 1) := by decide +kernel
theorem dX4_mayReplace_70 : decode cX4_mayReplace 70 = .ok (.bipush 103, 2) := by decide +kernel
theorem dX4_mayReplace_72 : decode cX4_mayReplace 72 = .ok (.if_icmp .ne 7, 3) := by decide +kernel
theorem dX4_mayReplace_75 : decode cX4_mayReplace 75 = .ok (.iconst 1, 1) := by decide +kernel
theorem dX4_mayReplace_76 : decode cX4_mayReplace 76 = .ok (.goto 4, 3) := by decide +kernel
theorem dX4_mayReplace_79 : decode cX4_mayReplace 79 = .ok (.iconst 0, 1) := by decide +kernel
theorem dX4_mayReplace_80 : decode cX4_mayReplace 80 = .ok (.aload_n 2, 1) := by decide +kernel
theorem dX4_mayReplace_81 : decode cX4_mayReplace 81 = .ok (.iconst 0, 1) := by decide +kernel
theorem dX4_mayReplace_82 : decode cX4_mayReplace 82 = .ok (.iaload, 1) := by decide +kernel
theorem dX4_mayReplace_83 : decode cX4_mayReplace 83 = .ok (.bipush 103, 2) := by decide +kernel
theorem dX4_mayReplace_85 : decode cX4_mayReplace 85 = .ok (.if_icmp .ne 7, 3) := by decide +kernel
theorem dX4_mayReplace_88 : decode cX4_mayReplace 88 = .ok (.iconst 1, 1) := by decide +kernel
theorem dX4_mayReplace_89 : decode cX4_mayReplace 89 = .ok (.goto 4, 3) := by decide +kernel
theorem dX4_mayReplace_92 : decode cX4_mayReplace 92 = .ok (.iconst 0, 1) := by decide +kernel
theorem dX4_mayReplace_93 : decode cX4_mayReplace 93 = .ok (.if_icmp .ne 7, 3) := by decide +kernel
theorem dX4_mayReplace_96 : decode cX4_mayReplace 96 = .ok (.iconst 1, 1) := by decide +kernel
theorem dX4_mayReplace_97 : decode cX4_mayReplace 97 = .ok (.goto 4, 3) := by decide +kernel
theorem dX4_mayReplace_100 : decode cX4_mayReplace 100 = .ok (.iconst 0, 1) := by decide +kernel
theorem dX4_mayReplace_101 : decode cX4_mayReplace 101 = .ok (.ireturn, 1) := by decide +kernel
theorem dX4_areNumbersAsTold_0 : decode cX4_areNumbersAsTold 0 = .ok (.aload_n 0, 1) := by decide +kernel
theorem dX4_areNumbersAsTold_1 : decode cX4_areNumbersAsTold 1 = .ok (.iconst 0, 1) := by decide +kernel
theorem dX4_areNumbersAsTold_2 : decode cX4_areNumbersAsTold 2 = .ok (.iaload, 1) := by decide +kernel
theorem dX4_areNumbersAsTold_3 : decode cX4_areNumbersAsTold 3 = .ok (.aload_n 0, 1) := by decide +kernel
theorem dX4_areNumbersAsTold_4 : decode cX4_areNumbersAsTold 4 = .ok (.iconst 3, 1) := by decide +kernel
theorem dX4_areNumbersAsTold_5 : decode cX4_areNumbersAsTold 5 = .ok (.iaload, 1) := by decide +kernel
theorem dX4_areNumbersAsTold_6 : decode cX4_areNumbersAsTold 6 = .ok (.aload_n 0, 1) := by decide +kernel
theorem dX4_areNumbersAsTold_7 : decode cX4_areNumbersAsTold 7 = .ok (.iconst 4, 1) := by decide +kernel
theorem dX4_areNumbersAsTold_8 : decode cX4_areNumbersAsTold 8 = .ok (.iaload, 1) := by decide +kernel
theorem dX4_areNumbersAsTold_9 : decode cX4_areNumbersAsTold 9 = .ok (.aload_n 0, 1) := by decide +kernel
theorem dX4_areNumbersAsTold_10 : decode cX4_areNumbersAsTold 10 = .ok (.iconst 5, 1) := by decide +kernel
theorem dX4_areNumbersAsTold_11 : decode cX4_areNumbersAsTold 11 = .ok (.iaload, 1) := by decide +kernel
theorem dX4_areNumbersAsTold_12 : decode cX4_areNumbersAsTold 12 = .ok (.invokestatic 77, 3) := by decide +kernel
theorem dX4_areNumbersAsTold_15 : decode cX4_areNumbersAsTold 15 = .ok (.ireturn, 1) := by decide +kernel
theorem dX4_areNamesAhead_0 : decode cX4_areNamesAhead 0 = .ok (.aload_n 1, 1) := by decide +kernel
theorem dX4_areNamesAhead_1 : decode cX4_areNamesAhead 1 = .ok (.iconst 1, 1) := by decide +kernel
theorem dX4_areNamesAhead_2 : decode cX4_areNamesAhead 2 = .ok (.iaload, 1) := by decide +kernel
theorem dX4_areNamesAhead_3 : decode cX4_areNamesAhead 3 = .ok (.istore_n 3, 1) := by decide +kernel
theorem dX4_areNamesAhead_4 : decode cX4_areNamesAhead 4 = .ok (.aload_n 1, 1) := by decide +kernel
theorem dX4_areNamesAhead_5 : decode cX4_areNamesAhead 5 = .ok (.iconst 2, 1) := by decide +kernel
theorem dX4_areNamesAhead_6 : decode cX4_areNamesAhead 6 = .ok (.iaload, 1) := by decide +kernel
theorem dX4_areNamesAhead_7 : decode cX4_areNamesAhead 7 = .ok (.istore 4, 2) := by decide +kernel
theorem dX4_areNamesAhead_9 : decode cX4_areNamesAhead 9 = .ok (.aload_n 0, 1) := by decide +kernel
theorem dX4_areNamesAhead_10 : decode cX4_areNamesAhead 10 = .ok (.iload_n 3, 1) := by decide +kernel
theorem dX4_areNamesAhead_11 : decode cX4_areNamesAhead 11 = .ok (.iload_n 2, 1) := by decide +kernel
theorem dX4_areNamesAhead_12 : decode cX4_areNamesAhead 12 = .ok (.invokevirtual 82, 3) := by decide +kernel
theorem dX4_areNamesAhead_15 : decode cX4_areNamesAhead 15 = .ok (.ifCond .eq 30, 3) := by decide +kernel
theorem dX4_areNamesAhead_18 : decode cX4_areNamesAhead 18 = .ok (.iload 4, 2) := by decide +kernel
theorem dX4_areNamesAhead_20 : decode cX4_areNamesAhead 20 = .ok (.bipush (-4), 2) := by decide +kernel
theorem dX4_areNamesAhead_22 : decode cX4_areNamesAhead 22 = .ok (.if_icmp .eq 19, 3) := by decide +kernel
theorem dX4_areNamesAhead_25 : decode cX4_areNamesAhead 25 = .ok (.iload 4, 2) := by decide +kernel
theorem dX4_areNamesAhead_27 : decode cX4_areNamesAhead 27 = .ok (.iload_n 3, 1) := by decide +kernel
theorem dX4_areNamesAhead_28 : decode cX4_areNamesAhead 28 = .ok (.if_icmp .eq 17, 3) := by decide +kernel
theorem dX4_areNamesAhead_31 : decode cX4_areNamesAhead 31 = .ok (.aload_n 0, 1) := by decide +kernel
theorem dX4_areNamesAhead_32 : decode cX4_areNamesAhead 32 = .ok (.iload 4, 2) := by decide +kernel
theorem dX4_areNamesAhead_34 : decode cX4_areNamesAhead 34 = .ok (.iload_n 2, 1) := by decide +kernel
theorem dX4_areNamesAhead_35 : decode cX4_areNamesAhead 35 = .ok (.invokevirtual 82, 3) := by decide +kernel
theorem dX4_areNamesAhead_38 : decode cX4_areNamesAhead 38 = .ok (.ifCond .eq 7, 3) := by decide +kernel
theorem dX4_areNamesAhead_41 : decode cX4_areNamesAhead 41 = .ok (.iconst 1, 1) := by decide +kernel
theorem dX4_areNamesAhead_42 : decode cX4_areNamesAhead 42 = .ok (.goto 4, 3) := by decide +kernel
theorem dX4_areNamesAhead_45 : decode cX4_areNamesAhead 45 = .ok (.iconst 0, 1) := by decide +kernel
theorem dX4_areNamesAhead_46 : decode cX4_areNamesAhead 46 = .ok (.ireturn, 1) := by decide +kernel
theorem dX4_isStoreAhead_0 : decode cX4_isStoreAhead 0 = .ok (.aload_n 0, 1) := by decide +kernel
theorem dX4_isStoreAhead_1 : decode cX4_isStoreAhead 1 = .ok (.iload_n 1, 1) := by decide +kernel
theorem dX4_isStoreAhead_2 : decode cX4_isStoreAhead 2 = .ok (.invokevirtual 66, 3) := by decide +kernel
theorem dX4_isStoreAhead_5 : decode cX4_isStoreAhead 5 = .ok (.ifCond .eq 17, 3) := by decide +kernel
theorem dX4_isStoreAhead_8 : decode cX4_isStoreAhead 8 = .ok (.aload_n 0, 1) := by decide +kernel
theorem dX4_isStoreAhead_9 : decode cX4_isStoreAhead 9 = .ok (.getfield 15, 3) := by decide +kernel
theorem dX4_isStoreAhead_12 : decode cX4_isStoreAhead 12 = .ok (.iload_n 1, 1) := by decide +kernel
theorem dX4_isStoreAhead_13 : decode cX4_isStoreAhead 13 = .ok (.iaload, 1) := by decide +kernel
theorem dX4_isStoreAhead_14 : decode cX4_isStoreAhead 14 = .ok (.iload_n 2, 1) := by decide +kernel
theorem dX4_isStoreAhead_15 : decode cX4_isStoreAhead 15 = .ok (.if_icmp .ge 7, 3) := by decide +kernel
theorem dX4_isStoreAhead_18 : decode cX4_isStoreAhead 18 = .ok (.iconst 1, 1) := by decide +kernel
theorem dX4_isStoreAhead_19 : decode cX4_isStoreAhead 19 = .ok (.goto 4, 3) := by decide +kernel
theorem dX4_isStoreAhead_22 : decode cX4_isStoreAhead 22 = .ok (.iconst 0, 1) := by decide +kernel
theorem dX4_isStoreAhead_23 : decode cX4_isStoreAhead 23 = .ok (.ireturn, 1) := by decide +kernel
theorem dX4_hasStore_0 : decode cX4_hasStore 0 = .ok (.iload_n 1, 1) := by decide +kernel
theorem dX4_hasStore_1 : decode cX4_hasStore 1 = .ok (.ifCond .lt 24, 3) := by decide +kernel
theorem dX4_hasStore_4 : decode cX4_hasStore 4 = .ok (.iload_n 1, 1) := by decide +kernel
theorem dX4_hasStore_5 : decode cX4_hasStore 5 = .ok (.bipush 16, 2) := by decide +kernel
theorem dX4_hasStore_7 : decode cX4_hasStore 7 = .ok (.if_icmp .ge 18, 3) := by decide +kernel
theorem dX4_hasStore_10 : decode cX4_hasStore 10 = .ok (.aload_n 0, 1) := by decide +kernel
theorem dX4_hasStore_11 : decode cX4_hasStore 11 = .ok (.getfield 15, 3) := by decide +kernel
theorem dX4_hasStore_14 : decode cX4_hasStore 14 = .ok (.iload_n 1, 1) := by decide +kernel
theorem dX4_hasStore_15 : decode cX4_hasStore 15 = .ok (.iaload, 1) := by decide +kernel
theorem dX4_hasStore_16 : decode cX4_hasStore 16 = .ok (.bipush (-4), 2) := by decide +kernel
theorem dX4_hasStore_18 : decode cX4_hasStore 18 = .ok (.if_icmp .eq 7, 3) := by decide +kernel
theorem dX4_hasStore_21 : decode cX4_hasStore 21 = .ok (.iconst 1, 1) := by decide +kernel
theorem dX4_hasStore_22 : decode cX4_hasStore 22 = .ok (.goto 4, 3) := by decide +kernel
theorem dX4_hasStore_25 : decode cX4_hasStore 25 = .ok (.iconst 0, 1) := by decide +kernel
theorem dX4_hasStore_26 : decode cX4_hasStore 26 = .ok (.ireturn, 1) := by decide +kernel
theorem dX6_rainIn_0 : decode cX6_rainIn 0 = .ok (.iload_n 1, 1) := by decide +kernel
theorem dX6_rainIn_1 : decode cX6_rainIn 1 = .ok (.iconst 0, 1) := by decide +kernel
theorem dX6_rainIn_2 : decode cX6_rainIn 2 = .ok (.bipush 95, 2) := by decide +kernel
theorem dX6_rainIn_4 : decode cX6_rainIn 4 = .ok (.invokestatic 24, 3) := by decide +kernel
theorem dX6_rainIn_7 : decode cX6_rainIn 7 = .ok (.ifCond .eq 7, 3) := by decide +kernel
theorem dX6_rainIn_10 : decode cX6_rainIn 10 = .ok (.iconst 0, 1) := by decide +kernel
theorem dX6_rainIn_11 : decode cX6_rainIn 11 = .ok (.goto 9, 3) := by decide +kernel
theorem dX6_rainIn_14 : decode cX6_rainIn 14 = .ok (.aload_n 0, 1) := by decide +kernel
theorem dX6_rainIn_15 : decode cX6_rainIn 15 = .ok (.getfield 9, 3) := by decide +kernel
theorem dX6_rainIn_18 : decode cX6_rainIn 18 = .ok (.iload_n 1, 1) := by decide +kernel
theorem dX6_rainIn_19 : decode cX6_rainIn 19 = .ok (.iaload, 1) := by decide +kernel
theorem dX6_rainIn_20 : decode cX6_rainIn 20 = .ok (.ireturn, 1) := by decide +kernel
theorem dX6_tempIn_0 : decode cX6_tempIn 0 = .ok (.iload_n 1, 1) := by decide +kernel
theorem dX6_tempIn_1 : decode cX6_tempIn 1 = .ok (.iconst 0, 1) := by decide +kernel
theorem dX6_tempIn_2 : decode cX6_tempIn 2 = .ok (.bipush 95, 2) := by decide +kernel
theorem dX6_tempIn_4 : decode cX6_tempIn 4 = .ok (.invokestatic 24, 3) := by decide +kernel
theorem dX6_tempIn_7 : decode cX6_tempIn 7 = .ok (.ifCond .eq 8, 3) := by decide +kernel
theorem dX6_tempIn_10 : decode cX6_tempIn 10 = .ok (.bipush 10, 2) := by decide +kernel
theorem dX6_tempIn_12 : decode cX6_tempIn 12 = .ok (.goto 9, 3) := by decide +kernel
theorem dX6_tempIn_15 : decode cX6_tempIn 15 = .ok (.aload_n 0, 1) := by decide +kernel
theorem dX6_tempIn_16 : decode cX6_tempIn 16 = .ok (.getfield 15, 3) := by decide +kernel
theorem dX6_tempIn_19 : decode cX6_tempIn 19 = .ok (.iload_n 1, 1) := by decide +kernel
theorem dX6_tempIn_20 : decode cX6_tempIn 20 = .ok (.iaload, 1) := by decide +kernel
theorem dX6_tempIn_21 : decode cX6_tempIn 21 = .ok (.ireturn, 1) := by decide +kernel
theorem dX7_readAlone_0 : decode cX7_readAlone 0 = .ok (.aload_n 0, 1) := by decide +kernel
theorem dX7_readAlone_1 : decode cX7_readAlone 1 = .ok (.iconst 0, 1) := by decide +kernel
theorem dX7_readAlone_2 : decode cX7_readAlone 2 = .ok (.putfield 22, 3) := by decide +kernel
theorem dX7_readAlone_5 : decode cX7_readAlone 5 = .ok (.aload_n 0, 1) := by decide +kernel
theorem dX7_readAlone_6 : decode cX7_readAlone 6 = .ok (.invokevirtual 30, 3) := by decide +kernel
theorem dX7_readAlone_9 : decode cX7_readAlone 9 = .ok (.ifCond .eq 18, 3) := by decide +kernel
theorem dX7_readAlone_12 : decode cX7_readAlone 12 = .ok (.aload_n 0, 1) := by decide +kernel
theorem dX7_readAlone_13 : decode cX7_readAlone 13 = .ok (.getfield 22, 3) := by decide +kernel
theorem dX7_readAlone_16 : decode cX7_readAlone 16 = .ok (.aload_n 0, 1) := by decide +kernel
theorem dX7_readAlone_17 : decode cX7_readAlone 17 = .ok (.getfield 18, 3) := by decide +kernel
theorem dX7_readAlone_20 : decode cX7_readAlone 20 = .ok (.if_icmp .ne 7, 3) := by decide +kernel
theorem dX7_readAlone_23 : decode cX7_readAlone 23 = .ok (.iconst 1, 1) := by decide +kernel
theorem dX7_readAlone_24 : decode cX7_readAlone 24 = .ok (.goto 4, 3) := by decide +kernel
theorem dX7_readAlone_27 : decode cX7_readAlone 27 = .ok (.iconst 0, 1) := by decide +kernel
theorem dX7_readAlone_28 : decode cX7_readAlone 28 = .ok (.ireturn, 1) := by decide +kernel
theorem dX7_readItem_0 : decode cX7_readItem 0 = .ok (.aload_n 0, 1) := by decide +kernel
theorem dX7_readItem_1 : decode cX7_readItem 1 = .ok (.getfield 15, 3) := by decide +kernel
theorem dX7_readItem_4 : decode cX7_readItem 4 = .ok (.bipush (-4), 2) := by decide +kernel
theorem dX7_readItem_6 : decode cX7_readItem 6 = .ok (.invokestatic 42, 3) := by decide +kernel
theorem dX7_readItem_9 : decode cX7_readItem 9 = .ok (.aload_n 0, 1) := by decide +kernel
theorem dX7_readItem_10 : decode cX7_readItem 10 = .ok (.invokevirtual 48, 3) := by decide +kernel
theorem dX7_readItem_13 : decode cX7_readItem 13 = .ok (.istore_n 1, 1) := by decide +kernel
theorem dX7_readItem_14 : decode cX7_readItem 14 = .ok (.aload_n 0, 1) := by decide +kernel
theorem dX7_readItem_15 : decode cX7_readItem 15 = .ok (.getfield 15, 3) := by decide +kernel
theorem dX7_readItem_18 : decode cX7_readItem 18 = .ok (.iconst 0, 1) := by decide +kernel
theorem dX7_readItem_19 : decode cX7_readItem 19 = .ok (.iload_n 1, 1) := by decide +kernel
theorem dX7_readItem_20 : decode cX7_readItem 20 = .ok (.iastore, 1) := by decide +kernel
theorem dX7_readItem_21 : decode cX7_readItem 21 = .ok (.iload_n 1, 1) := by decide +kernel
theorem dX7_readItem_22 : decode cX7_readItem 22 = .ok (.invokestatic 52, 3) := by decide +kernel
theorem dX7_readItem_25 : decode cX7_readItem 25 = .ok (.istore_n 2, 1) := by decide +kernel
theorem dX7_readItem_26 : decode cX7_readItem 26 = .ok (.iconst 0, 1) := by decide +kernel
theorem dX7_readItem_27 : decode cX7_readItem 27 = .ok (.istore_n 3, 1) := by decide +kernel
theorem dX7_readItem_28 : decode cX7_readItem 28 = .ok (.iload_n 3, 1) := by decide +kernel
theorem dX7_readItem_29 : decode cX7_readItem 29 = .ok (.iload_n 2, 1) := by decide +kernel
theorem dX7_readItem_30 : decode cX7_readItem 30 = .ok (.if_icmp .ge 21, 3) := by decide +kernel
theorem dX7_readItem_33 : decode cX7_readItem 33 = .ok (.aload_n 0, 1) := by decide +kernel
theorem dX7_readItem_34 : decode cX7_readItem 34 = .ok (.iconst 1, 1) := by decide +kernel
theorem dX7_readItem_35 : decode cX7_readItem 35 = .ok (.iload_n 3, 1) := by decide +kernel
theorem dX7_readItem_36 : decode cX7_readItem 36 = .ok (.iadd, 1) := by decide +kernel
theorem dX7_readItem_37 : decode cX7_readItem 37 = .ok (.invokevirtual 58, 3) := by decide +kernel
theorem dX7_readItem_40 : decode cX7_readItem 40 = .ok (.ifCond .ne 5, 3) := by decide +kernel
theorem dX7_readItem_43 : decode cX7_readItem 43 = .ok (.iconst 0, 1) := by decide +kernel
theorem dX7_readItem_44 : decode cX7_readItem 44 = .ok (.ireturn, 1) := by decide +kernel
theorem dX7_readItem_45 : decode cX7_readItem 45 = .ok (.iinc 3 1, 3) := by decide +kernel
theorem dX7_readItem_48 : decode cX7_readItem 48 = .ok (.goto (-20), 3) := by decide +kernel
theorem dX7_readItem_51 : decode cX7_readItem 51 = .ok (.iload_n 1, 1) := by decide +kernel
theorem dX7_readItem_52 : decode cX7_readItem 52 = .ok (.invokestatic 62, 3) := by decide +kernel
theorem dX7_readItem_55 : decode cX7_readItem 55 = .ok (.istore_n 3, 1) := by decide +kernel
theorem dX7_readItem_56 : decode cX7_readItem 56 = .ok (.iconst 0, 1) := by decide +kernel
theorem dX7_readItem_57 : decode cX7_readItem 57 = .ok (.istore 4, 2) := by decide +kernel
theorem dX7_readItem_59 : decode cX7_readItem 59 = .ok (.iload 4, 2) := by decide +kernel
theorem dX7_readItem_61 : decode cX7_readItem 61 = .ok (.iload_n 3, 1) := by decide +kernel
theorem dX7_readItem_62 : decode cX7_readItem 62 = .ok (.if_icmp .ge 22, 3) := by decide +kernel
theorem dX7_readItem_65 : decode cX7_readItem 65 = .ok (.aload_n 0, 1) := by decide +kernel
theorem dX7_readItem_66 : decode cX7_readItem 66 = .ok (.iconst 3, 1) := by decide +kernel
theorem dX7_readItem_67 : decode cX7_readItem 67 = .ok (.iload 4, 2) := by decide +kernel
theorem dX7_readItem_69 : decode cX7_readItem 69 = .ok (.iadd, 1) := by decide +kernel
theorem dX7_readItem_70 : decode cX7_readItem 70 = .ok (.invokevirtual 65, 3) := by decide +kernel
theorem dX7_readItem_73 : decode cX7_readItem 73 = .ok (.ifCond .ne 5, 3) := by decide +kernel
theorem dX7_readItem_76 : decode cX7_readItem 76 = .ok (.iconst 0, 1) := by decide +kernel
theorem dX7_readItem_77 : decode cX7_readItem 77 = .ok (.ireturn, 1) := by decide +kernel
theorem dX7_readItem_78 : decode cX7_readItem 78 = .ok (.iinc 4 1, 3) := by decide +kernel
theorem dX7_readItem_81 : decode cX7_readItem 81 = .ok (.goto (-22), 3) := by decide +kernel
theorem dX7_readItem_84 : decode cX7_readItem 84 = .ok (.iload_n 2, 1) := by decide +kernel
theorem dX7_readItem_85 : decode cX7_readItem 85 = .ok (.ifCond .le 16, 3) := by decide +kernel
theorem dX7_readItem_88 : decode cX7_readItem 88 = .ok (.aload_n 0, 1) := by decide +kernel
theorem dX7_readItem_89 : decode cX7_readItem 89 = .ok (.invokevirtual 48, 3) := by decide +kernel
theorem dX7_readItem_92 : decode cX7_readItem 92 = .ok (.bipush 59, 2) := by decide +kernel
theorem dX7_readItem_94 : decode cX7_readItem 94 = .ok (.if_icmp .ne 7, 3) := by decide +kernel
theorem dX7_readItem_97 : decode cX7_readItem 97 = .ok (.iconst 1, 1) := by decide +kernel
theorem dX7_readItem_98 : decode cX7_readItem 98 = .ok (.goto 4, 3) := by decide +kernel
theorem dX7_readItem_101 : decode cX7_readItem 101 = .ok (.iconst 0, 1) := by decide +kernel
theorem dX7_readItem_102 : decode cX7_readItem 102 = .ok (.ireturn, 1) := by decide +kernel
theorem dX7_readName_0 : decode cX7_readName 0 = .ok (.aload_n 0, 1) := by decide +kernel
theorem dX7_readName_1 : decode cX7_readName 1 = .ok (.invokevirtual 48, 3) := by decide +kernel
theorem dX7_readName_4 : decode cX7_readName 4 = .ok (.bipush 97, 2) := by decide +kernel
theorem dX7_readName_6 : decode cX7_readName 6 = .ok (.isub, 1) := by decide +kernel
theorem dX7_readName_7 : decode cX7_readName 7 = .ok (.istore_n 2, 1) := by decide +kernel
theorem dX7_readName_8 : decode cX7_readName 8 = .ok (.aload_n 0, 1) := by decide +kernel
theorem dX7_readName_9 : decode cX7_readName 9 = .ok (.getfield 15, 3) := by decide +kernel
theorem dX7_readName_12 : decode cX7_readName 12 = .ok (.iload_n 1, 1) := by decide +kernel
theorem dX7_readName_13 : decode cX7_readName 13 = .ok (.iload_n 2, 1) := by decide +kernel
theorem dX7_readName_14 : decode cX7_readName 14 = .ok (.iastore, 1) := by decide +kernel
theorem dX7_readName_15 : decode cX7_readName 15 = .ok (.iload_n 2, 1) := by decide +kernel
theorem dX7_readName_16 : decode cX7_readName 16 = .ok (.invokestatic 68, 3) := by decide +kernel
theorem dX7_readName_19 : decode cX7_readName 19 = .ok (.ifCond .ne 7, 3) := by decide +kernel
theorem dX7_readName_22 : decode cX7_readName 22 = .ok (.iconst 1, 1) := by decide +kernel
theorem dX7_readName_23 : decode cX7_readName 23 = .ok (.goto 4, 3) := by decide +kernel
theorem dX7_readName_26 : decode cX7_readName 26 = .ok (.iconst 0, 1) := by decide +kernel
theorem dX7_readName_27 : decode cX7_readName 27 = .ok (.ireturn, 1) := by decide +kernel
theorem dX7_readNumber_0 : decode cX7_readNumber 0 = .ok (.aload_n 0, 1) := by decide +kernel
theorem dX7_readNumber_1 : decode cX7_readNumber 1 = .ok (.invokevirtual 48, 3) := by decide +kernel
theorem dX7_readNumber_4 : decode cX7_readNumber 4 = .ok (.bipush 44, 2) := by decide +kernel
theorem dX7_readNumber_6 : decode cX7_readNumber 6 = .ok (.if_icmp .eq 5, 3) := by decide +kernel
theorem dX7_readNumber_9 : decode cX7_readNumber 9 = .ok (.iconst 0, 1) := by decide +kernel
theorem dX7_readNumber_10 : decode cX7_readNumber 10 = .ok (.ireturn, 1) := by decide +kernel
theorem dX7_readNumber_11 : decode cX7_readNumber 11 = .ok (.iconst 0, 1) := by decide +kernel
theorem dX7_readNumber_12 : decode cX7_readNumber 12 = .ok (.istore_n 2, 1) := by decide +kernel
theorem dX7_readNumber_13 : decode cX7_readNumber 13 = .ok (.iconst 0, 1) := by decide +kernel
theorem dX7_readNumber_14 : decode cX7_readNumber 14 = .ok (.istore_n 3, 1) := by decide +kernel
theorem dX7_readNumber_15 : decode cX7_readNumber 15 = .ok (.iload_n 3, 1) := by decide +kernel
theorem dX7_readNumber_16 : decode cX7_readNumber 16 = .ok (.bipush 7, 2) := by decide +kernel
theorem dX7_readNumber_18 : decode cX7_readNumber 18 = .ok (.if_icmp .ge 29, 3) := by decide +kernel
theorem dX7_readNumber_21 : decode cX7_readNumber 21 = .ok (.aload_n 0, 1) := by decide +kernel
theorem dX7_readNumber_22 : decode cX7_readNumber 22 = .ok (.invokevirtual 71, 3) := by decide +kernel
theorem dX7_readNumber_25 : decode cX7_readNumber 25 = .ok (.ifCond .eq 22, 3) := by decide +kernel
theorem dX7_readNumber_28 : decode cX7_readNumber 28 = .ok (.iload_n 2, 1) := by decide +kernel
theorem dX7_readNumber_29 : decode cX7_readNumber 29 = .ok (.bipush 10, 2) := by decide +kernel
theorem dX7_readNumber_31 : decode cX7_readNumber 31 = .ok (.imul, 1) := by decide +kernel
theorem dX7_readNumber_32 : decode cX7_readNumber 32 = .ok (.aload_n 0, 1) := by decide +kernel
theorem dX7_readNumber_33 : decode cX7_readNumber 33 = .ok (.invokevirtual 48, 3) := by decide +kernel
theorem dX7_readNumber_36 : decode cX7_readNumber 36 = .ok (.iadd, 1) := by decide +kernel
theorem dX7_readNumber_37 : decode cX7_readNumber 37 = .ok (.bipush 48, 2) := by decide +kernel
theorem dX7_readNumber_39 : decode cX7_readNumber 39 = .ok (.isub, 1) := by decide +kernel
theorem dX7_readNumber_40 : decode cX7_readNumber 40 = .ok (.istore_n 2, 1) := by decide +kernel
theorem dX7_readNumber_41 : decode cX7_readNumber 41 = .ok (.iinc 3 1, 3) := by decide +kernel
theorem dX7_readNumber_44 : decode cX7_readNumber 44 = .ok (.goto (-29), 3) := by decide +kernel
theorem dX7_readNumber_47 : decode cX7_readNumber 47 = .ok (.aload_n 0, 1) := by decide +kernel
theorem dX7_readNumber_48 : decode cX7_readNumber 48 = .ok (.getfield 15, 3) := by decide +kernel
theorem dX7_readNumber_51 : decode cX7_readNumber 51 = .ok (.iload_n 1, 1) := by decide +kernel
theorem dX7_readNumber_52 : decode cX7_readNumber 52 = .ok (.iload_n 2, 1) := by decide +kernel
theorem dX7_readNumber_53 : decode cX7_readNumber 53 = .ok (.iastore, 1) := by decide +kernel
theorem dX7_readNumber_54 : decode cX7_readNumber 54 = .ok (.iload_n 3, 1) := by decide +kernel
theorem dX7_readNumber_55 : decode cX7_readNumber 55 = .ok (.ifCond .le 7, 3) := by decide +kernel
theorem dX7_readNumber_58 : decode cX7_readNumber 58 = .ok (.iconst 1, 1) := by decide +kernel
theorem dX7_readNumber_59 : decode cX7_readNumber 59 = .ok (.goto 4, 3) := by decide +kernel
theorem dX7_readNumber_62 : decode cX7_readNumber 62 = .ok (.iconst 0, 1) := by decide +kernel
theorem dX7_readNumber_63 : decode cX7_readNumber 63 = .ok (.ireturn, 1) := by decide +kernel
theorem dX7_isAtFigure_0 : decode cX7_isAtFigure 0 = .ok (.aload_n 0, 1) := by decide +kernel
theorem dX7_isAtFigure_1 : decode cX7_isAtFigure 1 = .ok (.getfield 22, 3) := by decide +kernel
theorem dX7_isAtFigure_4 : decode cX7_isAtFigure 4 = .ok (.aload_n 0, 1) := by decide +kernel
theorem dX7_isAtFigure_5 : decode cX7_isAtFigure 5 = .ok (.getfield 18, 3) := by decide +kernel
theorem dX7_isAtFigure_8 : decode cX7_isAtFigure 8 = .ok (.if_icmp .ge 26, 3) := by decide +kernel
theorem dX7_isAtFigure_11 : decode cX7_isAtFigure 11 = .ok (.aload_n 0, 1) := by decide +kernel
theorem dX7_isAtFigure_12 : decode cX7_isAtFigure 12 = .ok (.getfield 9, 3) := by decide +kernel
theorem dX7_isAtFigure_15 : decode cX7_isAtFigure 15 = .ok (.aload_n 0, 1) := by decide +kernel
theorem dX7_isAtFigure_16 : decode cX7_isAtFigure 16 = .ok (.getfield 22, 3) := by decide +kernel
theorem dX7_isAtFigure_19 : decode cX7_isAtFigure 19 = .ok (.iaload, 1) := by decide +kernel
theorem dX7_isAtFigure_20 : decode cX7_isAtFigure 20 = .ok (.bipush 48, 2) := by decide +kernel
theorem dX7_isAtFigure_22 : decode cX7_isAtFigure 22 = .ok (.bipush 57, 2) := by decide +kernel
theorem dX7_isAtFigure_24 : decode cX7_isAtFigure 24 = .ok (.invokestatic 74, 3) := by decide +kernel
theorem dX7_isAtFigure_27 : decode cX7_isAtFigure 27 = .ok (.ifCond .ne 7, 3) := by decide +kernel
theorem dX7_isAtFigure_30 : decode cX7_isAtFigure 30 = .ok (.iconst 1, 1) := by decide +kernel
theorem dX7_isAtFigure_31 : decode cX7_isAtFigure 31 = .ok (.goto 4, 3) := by decide +kernel
theorem dX7_isAtFigure_34 : decode cX7_isAtFigure 34 = .ok (.iconst 0, 1) := by decide +kernel
theorem dX7_isAtFigure_35 : decode cX7_isAtFigure 35 = .ok (.ireturn, 1) := by decide +kernel
theorem dX7_nextByte_0 : decode cX7_nextByte 0 = .ok (.aload_n 0, 1) := by decide +kernel
theorem dX7_nextByte_1 : decode cX7_nextByte 1 = .ok (.getfield 22, 3) := by decide +kernel
theorem dX7_nextByte_4 : decode cX7_nextByte 4 = .ok (.aload_n 0, 1) := by decide +kernel
theorem dX7_nextByte_5 : decode cX7_nextByte 5 = .ok (.getfield 18, 3) := by decide +kernel
theorem dX7_nextByte_8 : decode cX7_nextByte 8 = .ok (.if_icmp .lt 5, 3) := by decide +kernel
theorem dX7_nextByte_11 : decode cX7_nextByte 11 = .ok (.iconst (-1), 1) := by decide +kernel
theorem dX7_nextByte_12 : decode cX7_nextByte 12 = .ok (.ireturn, 1) := by decide +kernel
theorem dX7_nextByte_13 : decode cX7_nextByte 13 = .ok (.aload_n 0, 1) := by decide +kernel
theorem dX7_nextByte_14 : decode cX7_nextByte 14 = .ok (.dup, 1) := by decide +kernel
theorem dX7_nextByte_15 : decode cX7_nextByte 15 = .ok (.getfield 22, 3) := by decide +kernel
theorem dX7_nextByte_18 : decode cX7_nextByte 18 = .ok (.iconst 1, 1) := by decide +kernel
theorem dX7_nextByte_19 : decode cX7_nextByte 19 = .ok (.iadd, 1) := by decide +kernel
theorem dX7_nextByte_20 : decode cX7_nextByte 20 = .ok (.putfield 22, 3) := by decide +kernel
theorem dX7_nextByte_23 : decode cX7_nextByte 23 = .ok (.aload_n 0, 1) := by decide +kernel
theorem dX7_nextByte_24 : decode cX7_nextByte 24 = .ok (.getfield 9, 3) := by decide +kernel
theorem dX7_nextByte_27 : decode cX7_nextByte 27 = .ok (.aload_n 0, 1) := by decide +kernel
theorem dX7_nextByte_28 : decode cX7_nextByte 28 = .ok (.getfield 22, 3) := by decide +kernel
theorem dX7_nextByte_31 : decode cX7_nextByte 31 = .ok (.iconst 1, 1) := by decide +kernel
theorem dX7_nextByte_32 : decode cX7_nextByte 32 = .ok (.isub, 1) := by decide +kernel
theorem dX7_nextByte_33 : decode cX7_nextByte 33 = .ok (.iaload, 1) := by decide +kernel
theorem dX7_nextByte_34 : decode cX7_nextByte 34 = .ok (.ireturn, 1) := by decide +kernel
theorem dX9_isOutside_0 : decode cX9_isOutside 0 = .ok (.iload_n 0, 1) := by decide +kernel
theorem dX9_isOutside_1 : decode cX9_isOutside 1 = .ok (.iload_n 1, 1) := by decide +kernel
theorem dX9_isOutside_2 : decode cX9_isOutside 2 = .ok (.if_icmp .lt 8, 3) := by decide +kernel
theorem dX9_isOutside_5 : decode cX9_isOutside 5 = .ok (.iload_n 0, 1) := by decide +kernel
theorem dX9_isOutside_6 : decode cX9_isOutside 6 = .ok (.iload_n 2, 1) := by decide +kernel
theorem dX9_isOutside_7 : decode cX9_isOutside 7 = .ok (.if_icmp .le 7, 3) := by decide +kernel
theorem dX9_isOutside_10 : decode cX9_isOutside 10 = .ok (.iconst 1, 1) := by decide +kernel
theorem dX9_isOutside_11 : decode cX9_isOutside 11 = .ok (.goto 4, 3) := by decide +kernel
theorem dX9_isOutside_14 : decode cX9_isOutside 14 = .ok (.iconst 0, 1) := by decide +kernel
theorem dX9_isOutside_15 : decode cX9_isOutside 15 = .ok (.ireturn, 1) := by decide +kernel
theorem dX9_isNoItem_0 : decode cX9_isNoItem 0 = .ok (.iload_n 0, 1) := by decide +kernel
theorem dX9_isNoItem_1 : decode cX9_isNoItem 1 = .ok (.ifCond .lt 9, 3) := by decide +kernel
theorem dX9_isNoItem_4 : decode cX9_isNoItem 4 = .ok (.iload_n 0, 1) := by decide +kernel
theorem dX9_isNoItem_5 : decode cX9_isNoItem 5 = .ok (.bipush 40, 2) := by decide +kernel
theorem dX9_isNoItem_7 : decode cX9_isNoItem 7 = .ok (.if_icmp .lt 7, 3) := by decide +kernel
theorem dX9_isNoItem_10 : decode cX9_isNoItem 10 = .ok (.iconst 1, 1) := by decide +kernel
theorem dX9_isNoItem_11 : decode cX9_isNoItem 11 = .ok (.goto 4, 3) := by decide +kernel
theorem dX9_isNoItem_14 : decode cX9_isNoItem 14 = .ok (.iconst 0, 1) := by decide +kernel
theorem dX9_isNoItem_15 : decode cX9_isNoItem 15 = .ok (.ireturn, 1) := by decide +kernel
theorem dX9_isNoStore_0 : decode cX9_isNoStore 0 = .ok (.iload_n 0, 1) := by decide +kernel
theorem dX9_isNoStore_1 : decode cX9_isNoStore 1 = .ok (.ifCond .lt 9, 3) := by decide +kernel
theorem dX9_isNoStore_4 : decode cX9_isNoStore 4 = .ok (.iload_n 0, 1) := by decide +kernel
theorem dX9_isNoStore_5 : decode cX9_isNoStore 5 = .ok (.bipush 16, 2) := by decide +kernel
theorem dX9_isNoStore_7 : decode cX9_isNoStore 7 = .ok (.if_icmp .lt 7, 3) := by decide +kernel
theorem dX9_isNoStore_10 : decode cX9_isNoStore 10 = .ok (.iconst 1, 1) := by decide +kernel
theorem dX9_isNoStore_11 : decode cX9_isNoStore 11 = .ok (.goto 4, 3) := by decide +kernel
theorem dX9_isNoStore_14 : decode cX9_isNoStore 14 = .ok (.iconst 0, 1) := by decide +kernel
theorem dX9_isNoStore_15 : decode cX9_isNoStore 15 = .ok (.ireturn, 1) := by decide +kernel
theorem dX9_isNoGate_0 : decode cX9_isNoGate 0 = .ok (.iload_n 0, 1) := by decide +kernel
theorem dX9_isNoGate_1 : decode cX9_isNoGate 1 = .ok (.ifCond .lt 8, 3) := by decide +kernel
theorem dX9_isNoGate_4 : decode cX9_isNoGate 4 = .ok (.iload_n 0, 1) := by decide +kernel
theorem dX9_isNoGate_5 : decode cX9_isNoGate 5 = .ok (.iconst 4, 1) := by decide +kernel
theorem dX9_isNoGate_6 : decode cX9_isNoGate 6 = .ok (.if_icmp .lt 7, 3) := by decide +kernel
theorem dX9_isNoGate_9 : decode cX9_isNoGate 9 = .ok (.iconst 1, 1) := by decide +kernel
theorem dX9_isNoGate_10 : decode cX9_isNoGate 10 = .ok (.goto 4, 3) := by decide +kernel
theorem dX9_isNoGate_13 : decode cX9_isNoGate 13 = .ok (.iconst 0, 1) := by decide +kernel
theorem dX9_isNoGate_14 : decode cX9_isNoGate 14 = .ok (.ireturn, 1) := by decide +kernel
theorem dX9_isNoGauge_0 : decode cX9_isNoGauge 0 = .ok (.iload_n 0, 1) := by decide +kernel
theorem dX9_isNoGauge_1 : decode cX9_isNoGauge 1 = .ok (.ifCond .lt 8, 3) := by decide +kernel
theorem dX9_isNoGauge_4 : decode cX9_isNoGauge 4 = .ok (.iload_n 0, 1) := by decide +kernel
theorem dX9_isNoGauge_5 : decode cX9_isNoGauge 5 = .ok (.iconst 4, 1) := by decide +kernel
theorem dX9_isNoGauge_6 : decode cX9_isNoGauge 6 = .ok (.if_icmp .lt 7, 3) := by decide +kernel
theorem dX9_isNoGauge_9 : decode cX9_isNoGauge 9 = .ok (.iconst 1, 1) := by decide +kernel
theorem dX9_isNoGauge_10 : decode cX9_isNoGauge 10 = .ok (.goto 4, 3) := by decide +kernel
theorem dX9_isNoGauge_13 : decode cX9_isNoGauge 13 = .ok (.iconst 0, 1) := by decide +kernel
theorem dX9_isNoGauge_14 : decode cX9_isNoGauge 14 = .ok (.ireturn, 1) := by decide +kernel
theorem dX9_isNoKnob_0 : decode cX9_isNoKnob 0 = .ok (.iload_n 0, 1) := by decide +kernel
theorem dX9_isNoKnob_1 : decode cX9_isNoKnob 1 = .ok (.ifCond .lt 8, 3) := by decide +kernel
theorem dX9_isNoKnob_4 : decode cX9_isNoKnob 4 = .ok (.iload_n 0, 1) := by decide +kernel
theorem dX9_isNoKnob_5 : decode cX9_isNoKnob 5 = .ok (.iconst 2, 1) := by decide +kernel
theorem dX9_isNoKnob_6 : decode cX9_isNoKnob 6 = .ok (.if_icmp .lt 7, 3) := by decide +kernel
theorem dX9_isNoKnob_9 : decode cX9_isNoKnob 9 = .ok (.iconst 1, 1) := by decide +kernel
theorem dX9_isNoKnob_10 : decode cX9_isNoKnob 10 = .ok (.goto 4, 3) := by decide +kernel
theorem dX9_isNoKnob_13 : decode cX9_isNoKnob 13 = .ok (.iconst 0, 1) := by decide +kernel
theorem dX9_isNoKnob_14 : decode cX9_isNoKnob 14 = .ok (.ireturn, 1) := by decide +kernel
theorem dX9_isNoWorld_0 : decode cX9_isNoWorld 0 = .ok (.iload_n 0, 1) := by decide +kernel
theorem dX9_isNoWorld_1 : decode cX9_isNoWorld 1 = .ok (.ifCond .lt 8, 3) := by decide +kernel
theorem dX9_isNoWorld_4 : decode cX9_isNoWorld 4 = .ok (.iload_n 0, 1) := by decide +kernel
theorem dX9_isNoWorld_5 : decode cX9_isNoWorld 5 = .ok (.iconst 4, 1) := by decide +kernel
theorem dX9_isNoWorld_6 : decode cX9_isNoWorld 6 = .ok (.if_icmp .lt 7, 3) := by decide +kernel
theorem dX9_isNoWorld_9 : decode cX9_isNoWorld 9 = .ok (.iconst 1, 1) := by decide +kernel
theorem dX9_isNoWorld_10 : decode cX9_isNoWorld 10 = .ok (.goto 4, 3) := by decide +kernel
theorem dX9_isNoWorld_13 : decode cX9_isNoWorld 13 = .ok (.iconst 0, 1) := by decide +kernel
theorem dX9_isNoWorld_14 : decode cX9_isNoWorld 14 = .ok (.ireturn, 1) := by decide +kernel
def uX9_isOutside : List Cond := .code yX9_isOutside cX9_isOutside 3 (some .boolean) :: ([])
set_option maxHeartbeats 4000000 in
set_option maxRecDepth 100000 in
theorem s_X9_isOutside (l : Launch) (D : va_G) (t : Nat → Nat) (cI cL cC : ClassId) (gC : Int32) (gE : Int32) (G : Nat) (gW : Nat → Int32) (gA : Nat → Int32) (v : Int32) (lo : Int32) (hi : Int32) (A B : Int) (hA : lo.toInt = A) (hB : hi.toInt = B) : tM l yX9_isOutside uX9_isOutside 0 0 D (gF cI cL cC gC gE G gW gA) (gF cI cL cC gC gE G gW gA) t cI cL cC [.int v, .int lo, .int hi] wr0 (pI (fun r => (r = 1 ∧ (v.toInt < A ∨ B < v.toInt)) ∨ (r = 0 ∧ A ≤ v.toInt ∧ v.toInt ≤ B))) := by
  refine tM.ofW (cc := cX9_isOutside) (maxL := 3) (ret := (some .boolean)) (by decide) rfl (Nat.le_of_ble_eq_true rfl) ?_
  intro p e s m below meth c hx hb hr hml hown hts hlk H locs hG hK hE hS ls hl
  have hl : lv_has ls 3 [(0, .int v), (1, .int lo), (2, .int hi)] := hl
  skip
  refine lv_iload_n hx hb dX9_isOutside_0 rfl (lv_at hl 0 rfl) ?_
  refine lv_iload_n hx hb dX9_isOutside_1 rfl (lv_at hl 1 rfl) ?_
  refine lv_icmp_lt (tgt := 10) hx hb dX9_isOutside_2 (by decide) (fun c_1 => ?_) (fun c_1 => ?_)
  · skip
    have c_1 : v.toInt < lo.toInt := q_lt c_1
    refine lv_iconst (v := 1) hx hb dX9_isOutside_10 (by decide) ?_
    refine lv_goto (tgt := 15) hx hb dX9_isOutside_11 (by decide) ?_
    exact ty_zret hx hb hr hlk rfl hG hS (by first | exact Or.inl ⟨rfl, by omega⟩ | exact Or.inr ⟨rfl, by omega⟩) dX9_isOutside_15
  · skip
    have c_1 : lo.toInt ≤ v.toInt := q_nlt c_1
    refine lv_iload_n hx hb dX9_isOutside_5 rfl (lv_at hl 0 rfl) ?_
    refine lv_pc (pc2 := 6) rfl ?_
    refine lv_iload_n hx hb dX9_isOutside_6 rfl (lv_at hl 2 rfl) ?_
    refine lv_icmp_le (tgt := 14) hx hb dX9_isOutside_7 (by decide) (fun c_2 => ?_) (fun c_2 => ?_)
    · skip
      have c_2 : v.toInt ≤ hi.toInt := q_le c_2
      refine lv_iconst (v := 0) hx hb dX9_isOutside_14 (by decide) ?_
      exact ty_zret hx hb hr hlk rfl hG hS (by first | exact Or.inl ⟨rfl, by omega⟩ | exact Or.inr ⟨rfl, by omega⟩) dX9_isOutside_15
    · skip
      have c_2 : hi.toInt < v.toInt := q_nle c_2
      refine lv_iconst (v := 1) hx hb dX9_isOutside_10 (by decide) ?_
      refine lv_goto (tgt := 15) hx hb dX9_isOutside_11 (by decide) ?_
      exact ty_zret hx hb hr hlk rfl hG hS (by first | exact Or.inl ⟨rfl, by omega⟩ | exact Or.inr ⟨rfl, by omega⟩) dX9_isOutside_15

def uX9_isNoItem : List Cond := .code yX9_isNoItem cX9_isNoItem 1 (some .boolean) :: ([])
set_option maxHeartbeats 4000000 in
set_option maxRecDepth 100000 in
theorem s_X9_isNoItem (l : Launch) (D : va_G) (t : Nat → Nat) (cI cL cC : ClassId) (gC : Int32) (gE : Int32) (G : Nat) (gW : Nat → Int32) (gA : Nat → Int32) (v : Int32) : tM l yX9_isNoItem uX9_isNoItem 0 0 D (gF cI cL cC gC gE G gW gA) (gF cI cL cC gC gE G gW gA) t cI cL cC [.int v] wr0 (pI (fun r => (r = 1 ∧ (v.toInt < 0 ∨ 39 < v.toInt)) ∨ (r = 0 ∧ 0 ≤ v.toInt ∧ v.toInt ≤ 39))) := by
  refine tM.ofW (cc := cX9_isNoItem) (maxL := 1) (ret := (some .boolean)) (by decide) rfl (Nat.le_of_ble_eq_true rfl) ?_
  intro p e s m below meth c hx hb hr hml hown hts hlk H locs hG hK hE hS ls hl
  have hl : lv_has ls 1 [(0, .int v)] := hl
  skip
  refine lv_iload_n hx hb dX9_isNoItem_0 rfl (lv_at hl 0 rfl) ?_
  refine lv_if_lt (tgt := 10) hx hb dX9_isNoItem_1 (by decide) (fun c_1 => ?_) (fun c_1 => ?_)
  · skip
    have c_1 : v.toInt < 0 := q_lt c_1
    refine lv_iconst (v := 1) hx hb dX9_isNoItem_10 (by decide) ?_
    refine lv_goto (tgt := 15) hx hb dX9_isNoItem_11 (by decide) ?_
    exact ty_zret hx hb hr hlk rfl hG hS (by first | exact Or.inl ⟨rfl, by omega⟩ | exact Or.inr ⟨rfl, by omega⟩) dX9_isNoItem_15
  · skip
    have c_1 : 0 ≤ v.toInt := q_nlt c_1
    refine lv_iload_n hx hb dX9_isNoItem_4 rfl (lv_at hl 0 rfl) ?_
    refine lv_bipush (v := 40) hx hb dX9_isNoItem_5 (by decide) ?_
    refine lv_pc (pc2 := 7) rfl ?_
    refine lv_icmp_lt (tgt := 14) hx hb dX9_isNoItem_7 (by decide) (fun c_2 => ?_) (fun c_2 => ?_)
    · skip
      have c_2 : v.toInt < 40 := q_lt c_2
      refine lv_iconst (v := 0) hx hb dX9_isNoItem_14 (by decide) ?_
      exact ty_zret hx hb hr hlk rfl hG hS (by first | exact Or.inl ⟨rfl, by omega⟩ | exact Or.inr ⟨rfl, by omega⟩) dX9_isNoItem_15
    · skip
      have c_2 : 40 ≤ v.toInt := q_nlt c_2
      refine lv_iconst (v := 1) hx hb dX9_isNoItem_10 (by decide) ?_
      refine lv_goto (tgt := 15) hx hb dX9_isNoItem_11 (by decide) ?_
      exact ty_zret hx hb hr hlk rfl hG hS (by first | exact Or.inl ⟨rfl, by omega⟩ | exact Or.inr ⟨rfl, by omega⟩) dX9_isNoItem_15

def uX9_isNoStore : List Cond := .code yX9_isNoStore cX9_isNoStore 1 (some .boolean) :: ([])
set_option maxHeartbeats 4000000 in
set_option maxRecDepth 100000 in
theorem s_X9_isNoStore (l : Launch) (D : va_G) (t : Nat → Nat) (cI cL cC : ClassId) (gC : Int32) (gE : Int32) (G : Nat) (gW : Nat → Int32) (gA : Nat → Int32) (v : Int32) : tM l yX9_isNoStore uX9_isNoStore 0 0 D (gF cI cL cC gC gE G gW gA) (gF cI cL cC gC gE G gW gA) t cI cL cC [.int v] wr0 (pI (fun r => (r = 1 ∧ (v.toInt < 0 ∨ 15 < v.toInt)) ∨ (r = 0 ∧ 0 ≤ v.toInt ∧ v.toInt ≤ 15))) := by
  refine tM.ofW (cc := cX9_isNoStore) (maxL := 1) (ret := (some .boolean)) (by decide) rfl (Nat.le_of_ble_eq_true rfl) ?_
  intro p e s m below meth c hx hb hr hml hown hts hlk H locs hG hK hE hS ls hl
  have hl : lv_has ls 1 [(0, .int v)] := hl
  skip
  refine lv_iload_n hx hb dX9_isNoStore_0 rfl (lv_at hl 0 rfl) ?_
  refine lv_if_lt (tgt := 10) hx hb dX9_isNoStore_1 (by decide) (fun c_1 => ?_) (fun c_1 => ?_)
  · skip
    have c_1 : v.toInt < 0 := q_lt c_1
    refine lv_iconst (v := 1) hx hb dX9_isNoStore_10 (by decide) ?_
    refine lv_goto (tgt := 15) hx hb dX9_isNoStore_11 (by decide) ?_
    exact ty_zret hx hb hr hlk rfl hG hS (by first | exact Or.inl ⟨rfl, by omega⟩ | exact Or.inr ⟨rfl, by omega⟩) dX9_isNoStore_15
  · skip
    have c_1 : 0 ≤ v.toInt := q_nlt c_1
    refine lv_iload_n hx hb dX9_isNoStore_4 rfl (lv_at hl 0 rfl) ?_
    refine lv_bipush (v := 16) hx hb dX9_isNoStore_5 (by decide) ?_
    refine lv_pc (pc2 := 7) rfl ?_
    refine lv_icmp_lt (tgt := 14) hx hb dX9_isNoStore_7 (by decide) (fun c_2 => ?_) (fun c_2 => ?_)
    · skip
      have c_2 : v.toInt < 16 := q_lt c_2
      refine lv_iconst (v := 0) hx hb dX9_isNoStore_14 (by decide) ?_
      exact ty_zret hx hb hr hlk rfl hG hS (by first | exact Or.inl ⟨rfl, by omega⟩ | exact Or.inr ⟨rfl, by omega⟩) dX9_isNoStore_15
    · skip
      have c_2 : 16 ≤ v.toInt := q_nlt c_2
      refine lv_iconst (v := 1) hx hb dX9_isNoStore_10 (by decide) ?_
      refine lv_goto (tgt := 15) hx hb dX9_isNoStore_11 (by decide) ?_
      exact ty_zret hx hb hr hlk rfl hG hS (by first | exact Or.inl ⟨rfl, by omega⟩ | exact Or.inr ⟨rfl, by omega⟩) dX9_isNoStore_15

def uX9_isNoGate : List Cond := .code yX9_isNoGate cX9_isNoGate 1 (some .boolean) :: ([])
set_option maxHeartbeats 4000000 in
set_option maxRecDepth 100000 in
theorem s_X9_isNoGate (l : Launch) (D : va_G) (t : Nat → Nat) (cI cL cC : ClassId) (gC : Int32) (gE : Int32) (G : Nat) (gW : Nat → Int32) (gA : Nat → Int32) (v : Int32) : tM l yX9_isNoGate uX9_isNoGate 0 0 D (gF cI cL cC gC gE G gW gA) (gF cI cL cC gC gE G gW gA) t cI cL cC [.int v] wr0 (pI (fun r => (r = 1 ∧ (v.toInt < 0 ∨ 3 < v.toInt)) ∨ (r = 0 ∧ 0 ≤ v.toInt ∧ v.toInt ≤ 3))) := by
  refine tM.ofW (cc := cX9_isNoGate) (maxL := 1) (ret := (some .boolean)) (by decide) rfl (Nat.le_of_ble_eq_true rfl) ?_
  intro p e s m below meth c hx hb hr hml hown hts hlk H locs hG hK hE hS ls hl
  have hl : lv_has ls 1 [(0, .int v)] := hl
  skip
  refine lv_iload_n hx hb dX9_isNoGate_0 rfl (lv_at hl 0 rfl) ?_
  refine lv_if_lt (tgt := 9) hx hb dX9_isNoGate_1 (by decide) (fun c_1 => ?_) (fun c_1 => ?_)
  · skip
    have c_1 : v.toInt < 0 := q_lt c_1
    refine lv_iconst (v := 1) hx hb dX9_isNoGate_9 (by decide) ?_
    refine lv_goto (tgt := 14) hx hb dX9_isNoGate_10 (by decide) ?_
    exact ty_zret hx hb hr hlk rfl hG hS (by first | exact Or.inl ⟨rfl, by omega⟩ | exact Or.inr ⟨rfl, by omega⟩) dX9_isNoGate_14
  · skip
    have c_1 : 0 ≤ v.toInt := q_nlt c_1
    refine lv_iload_n hx hb dX9_isNoGate_4 rfl (lv_at hl 0 rfl) ?_
    refine lv_iconst (v := 4) hx hb dX9_isNoGate_5 (by decide) ?_
    refine lv_pc (pc2 := 6) rfl ?_
    refine lv_icmp_lt (tgt := 13) hx hb dX9_isNoGate_6 (by decide) (fun c_2 => ?_) (fun c_2 => ?_)
    · skip
      have c_2 : v.toInt < 4 := q_lt c_2
      refine lv_iconst (v := 0) hx hb dX9_isNoGate_13 (by decide) ?_
      exact ty_zret hx hb hr hlk rfl hG hS (by first | exact Or.inl ⟨rfl, by omega⟩ | exact Or.inr ⟨rfl, by omega⟩) dX9_isNoGate_14
    · skip
      have c_2 : 4 ≤ v.toInt := q_nlt c_2
      refine lv_iconst (v := 1) hx hb dX9_isNoGate_9 (by decide) ?_
      refine lv_goto (tgt := 14) hx hb dX9_isNoGate_10 (by decide) ?_
      exact ty_zret hx hb hr hlk rfl hG hS (by first | exact Or.inl ⟨rfl, by omega⟩ | exact Or.inr ⟨rfl, by omega⟩) dX9_isNoGate_14

def uX9_isNoGauge : List Cond := .code yX9_isNoGauge cX9_isNoGauge 1 (some .boolean) :: ([])
set_option maxHeartbeats 4000000 in
set_option maxRecDepth 100000 in
theorem s_X9_isNoGauge (l : Launch) (D : va_G) (t : Nat → Nat) (cI cL cC : ClassId) (gC : Int32) (gE : Int32) (G : Nat) (gW : Nat → Int32) (gA : Nat → Int32) (v : Int32) : tM l yX9_isNoGauge uX9_isNoGauge 0 0 D (gF cI cL cC gC gE G gW gA) (gF cI cL cC gC gE G gW gA) t cI cL cC [.int v] wr0 (pI (fun r => (r = 1 ∧ (v.toInt < 0 ∨ 3 < v.toInt)) ∨ (r = 0 ∧ 0 ≤ v.toInt ∧ v.toInt ≤ 3))) := by
  refine tM.ofW (cc := cX9_isNoGauge) (maxL := 1) (ret := (some .boolean)) (by decide) rfl (Nat.le_of_ble_eq_true rfl) ?_
  intro p e s m below meth c hx hb hr hml hown hts hlk H locs hG hK hE hS ls hl
  have hl : lv_has ls 1 [(0, .int v)] := hl
  skip
  refine lv_iload_n hx hb dX9_isNoGauge_0 rfl (lv_at hl 0 rfl) ?_
  refine lv_if_lt (tgt := 9) hx hb dX9_isNoGauge_1 (by decide) (fun c_1 => ?_) (fun c_1 => ?_)
  · skip
    have c_1 : v.toInt < 0 := q_lt c_1
    refine lv_iconst (v := 1) hx hb dX9_isNoGauge_9 (by decide) ?_
    refine lv_goto (tgt := 14) hx hb dX9_isNoGauge_10 (by decide) ?_
    exact ty_zret hx hb hr hlk rfl hG hS (by first | exact Or.inl ⟨rfl, by omega⟩ | exact Or.inr ⟨rfl, by omega⟩) dX9_isNoGauge_14
  · skip
    have c_1 : 0 ≤ v.toInt := q_nlt c_1
    refine lv_iload_n hx hb dX9_isNoGauge_4 rfl (lv_at hl 0 rfl) ?_
    refine lv_iconst (v := 4) hx hb dX9_isNoGauge_5 (by decide) ?_
    refine lv_pc (pc2 := 6) rfl ?_
    refine lv_icmp_lt (tgt := 13) hx hb dX9_isNoGauge_6 (by decide) (fun c_2 => ?_) (fun c_2 => ?_)
    · skip
      have c_2 : v.toInt < 4 := q_lt c_2
      refine lv_iconst (v := 0) hx hb dX9_isNoGauge_13 (by decide) ?_
      exact ty_zret hx hb hr hlk rfl hG hS (by first | exact Or.inl ⟨rfl, by omega⟩ | exact Or.inr ⟨rfl, by omega⟩) dX9_isNoGauge_14
    · skip
      have c_2 : 4 ≤ v.toInt := q_nlt c_2
      refine lv_iconst (v := 1) hx hb dX9_isNoGauge_9 (by decide) ?_
      refine lv_goto (tgt := 14) hx hb dX9_isNoGauge_10 (by decide) ?_
      exact ty_zret hx hb hr hlk rfl hG hS (by first | exact Or.inl ⟨rfl, by omega⟩ | exact Or.inr ⟨rfl, by omega⟩) dX9_isNoGauge_14

def uX9_isNoKnob : List Cond := .code yX9_isNoKnob cX9_isNoKnob 1 (some .boolean) :: ([])
set_option maxHeartbeats 4000000 in
set_option maxRecDepth 100000 in
theorem s_X9_isNoKnob (l : Launch) (D : va_G) (t : Nat → Nat) (cI cL cC : ClassId) (gC : Int32) (gE : Int32) (G : Nat) (gW : Nat → Int32) (gA : Nat → Int32) (v : Int32) : tM l yX9_isNoKnob uX9_isNoKnob 0 0 D (gF cI cL cC gC gE G gW gA) (gF cI cL cC gC gE G gW gA) t cI cL cC [.int v] wr0 (pI (fun r => (r = 1 ∧ (v.toInt < 0 ∨ 1 < v.toInt)) ∨ (r = 0 ∧ 0 ≤ v.toInt ∧ v.toInt ≤ 1))) := by
  refine tM.ofW (cc := cX9_isNoKnob) (maxL := 1) (ret := (some .boolean)) (by decide) rfl (Nat.le_of_ble_eq_true rfl) ?_
  intro p e s m below meth c hx hb hr hml hown hts hlk H locs hG hK hE hS ls hl
  have hl : lv_has ls 1 [(0, .int v)] := hl
  skip
  refine lv_iload_n hx hb dX9_isNoKnob_0 rfl (lv_at hl 0 rfl) ?_
  refine lv_if_lt (tgt := 9) hx hb dX9_isNoKnob_1 (by decide) (fun c_1 => ?_) (fun c_1 => ?_)
  · skip
    have c_1 : v.toInt < 0 := q_lt c_1
    refine lv_iconst (v := 1) hx hb dX9_isNoKnob_9 (by decide) ?_
    refine lv_goto (tgt := 14) hx hb dX9_isNoKnob_10 (by decide) ?_
    exact ty_zret hx hb hr hlk rfl hG hS (by first | exact Or.inl ⟨rfl, by omega⟩ | exact Or.inr ⟨rfl, by omega⟩) dX9_isNoKnob_14
  · skip
    have c_1 : 0 ≤ v.toInt := q_nlt c_1
    refine lv_iload_n hx hb dX9_isNoKnob_4 rfl (lv_at hl 0 rfl) ?_
    refine lv_iconst (v := 2) hx hb dX9_isNoKnob_5 (by decide) ?_
    refine lv_pc (pc2 := 6) rfl ?_
    refine lv_icmp_lt (tgt := 13) hx hb dX9_isNoKnob_6 (by decide) (fun c_2 => ?_) (fun c_2 => ?_)
    · skip
      have c_2 : v.toInt < 2 := q_lt c_2
      refine lv_iconst (v := 0) hx hb dX9_isNoKnob_13 (by decide) ?_
      exact ty_zret hx hb hr hlk rfl hG hS (by first | exact Or.inl ⟨rfl, by omega⟩ | exact Or.inr ⟨rfl, by omega⟩) dX9_isNoKnob_14
    · skip
      have c_2 : 2 ≤ v.toInt := q_nlt c_2
      refine lv_iconst (v := 1) hx hb dX9_isNoKnob_9 (by decide) ?_
      refine lv_goto (tgt := 14) hx hb dX9_isNoKnob_10 (by decide) ?_
      exact ty_zret hx hb hr hlk rfl hG hS (by first | exact Or.inl ⟨rfl, by omega⟩ | exact Or.inr ⟨rfl, by omega⟩) dX9_isNoKnob_14

def uX9_isNoWorld : List Cond := .code yX9_isNoWorld cX9_isNoWorld 1 (some .boolean) :: ([])
set_option maxHeartbeats 4000000 in
set_option maxRecDepth 100000 in
theorem s_X9_isNoWorld (l : Launch) (D : va_G) (t : Nat → Nat) (cI cL cC : ClassId) (gC : Int32) (gE : Int32) (G : Nat) (gW : Nat → Int32) (gA : Nat → Int32) (v : Int32) : tM l yX9_isNoWorld uX9_isNoWorld 0 0 D (gF cI cL cC gC gE G gW gA) (gF cI cL cC gC gE G gW gA) t cI cL cC [.int v] wr0 (pI (fun r => (r = 1 ∧ (v.toInt < 0 ∨ 3 < v.toInt)) ∨ (r = 0 ∧ 0 ≤ v.toInt ∧ v.toInt ≤ 3))) := by
  refine tM.ofW (cc := cX9_isNoWorld) (maxL := 1) (ret := (some .boolean)) (by decide) rfl (Nat.le_of_ble_eq_true rfl) ?_
  intro p e s m below meth c hx hb hr hml hown hts hlk H locs hG hK hE hS ls hl
  have hl : lv_has ls 1 [(0, .int v)] := hl
  skip
  refine lv_iload_n hx hb dX9_isNoWorld_0 rfl (lv_at hl 0 rfl) ?_
  refine lv_if_lt (tgt := 9) hx hb dX9_isNoWorld_1 (by decide) (fun c_1 => ?_) (fun c_1 => ?_)
  · skip
    have c_1 : v.toInt < 0 := q_lt c_1
    refine lv_iconst (v := 1) hx hb dX9_isNoWorld_9 (by decide) ?_
    refine lv_goto (tgt := 14) hx hb dX9_isNoWorld_10 (by decide) ?_
    exact ty_zret hx hb hr hlk rfl hG hS (by first | exact Or.inl ⟨rfl, by omega⟩ | exact Or.inr ⟨rfl, by omega⟩) dX9_isNoWorld_14
  · skip
    have c_1 : 0 ≤ v.toInt := q_nlt c_1
    refine lv_iload_n hx hb dX9_isNoWorld_4 rfl (lv_at hl 0 rfl) ?_
    refine lv_iconst (v := 4) hx hb dX9_isNoWorld_5 (by decide) ?_
    refine lv_pc (pc2 := 6) rfl ?_
    refine lv_icmp_lt (tgt := 13) hx hb dX9_isNoWorld_6 (by decide) (fun c_2 => ?_) (fun c_2 => ?_)
    · skip
      have c_2 : v.toInt < 4 := q_lt c_2
      refine lv_iconst (v := 0) hx hb dX9_isNoWorld_13 (by decide) ?_
      exact ty_zret hx hb hr hlk rfl hG hS (by first | exact Or.inl ⟨rfl, by omega⟩ | exact Or.inr ⟨rfl, by omega⟩) dX9_isNoWorld_14
    · skip
      have c_2 : 4 ≤ v.toInt := q_nlt c_2
      refine lv_iconst (v := 1) hx hb dX9_isNoWorld_9 (by decide) ?_
      refine lv_goto (tgt := 14) hx hb dX9_isNoWorld_10 (by decide) ?_
      exact ty_zret hx hb hr hlk rfl hG hS (by first | exact Or.inl ⟨rfl, by omega⟩ | exact Or.inr ⟨rfl, by omega⟩) dX9_isNoWorld_14

def uX2_namesOf : List Cond := .code yX2_namesOf cX2_namesOf 1 (some .int) :: ([])
set_option maxHeartbeats 4000000 in
set_option maxRecDepth 100000 in
theorem s_X2_namesOf (l : Launch) (D : va_G) (t : Nat → Nat) (cI cL cC : ClassId) (gC : Int32) (gE : Int32) (G : Nat) (gW : Nat → Int32) (gA : Nat → Int32) (a0 : Int32) : tM l yX2_namesOf uX2_namesOf 0 0 D (gF cI cL cC gC gE G gW gA) (gF cI cL cC gC gE G gW gA) t cI cL cC [.int a0] wr0 (pI (fun r => 0 ≤ r.toInt ∧ r.toInt ≤ 2)) := by
  refine tM.ofW (cc := cX2_namesOf) (maxL := 1) (ret := (some .int)) (by decide) rfl (Nat.le_of_ble_eq_true rfl) ?_
  intro p e s m below meth c hx hb hr hml hown hts hlk H locs hG hK hE hS ls hl
  have hl : lv_has ls 1 [(0, .int a0)] := hl
  skip
  refine lv_iload_n hx hb dX2_namesOf_0 rfl (lv_at hl 0 rfl) ?_
  by_cases k_1 : a0.toInt = 101
  · refine lv_tableIn (tgt := 106) hx hb dX2_namesOf_1 (by rw [k_1]; decide) (by rw [k_1]; decide) (by rw [k_1]; rfl) (by decide) ?_
    refine lv_iconst (v := 1) hx hb dX2_namesOf_106 (by decide) ?_
    exact ty_iret hx hb hr hlk hG hS (by decide) dX2_namesOf_107
  by_cases k_2 : a0.toInt = 102
  · refine lv_tableIn (tgt := 108) hx hb dX2_namesOf_1 (by rw [k_2]; decide) (by rw [k_2]; decide) (by rw [k_2]; rfl) (by decide) ?_
    refine lv_iconst (v := 0) hx hb dX2_namesOf_108 (by decide) ?_
    exact ty_iret hx hb hr hlk hG hS (by decide) dX2_namesOf_109
  by_cases k_3 : a0.toInt = 103
  · refine lv_tableIn (tgt := 104) hx hb dX2_namesOf_1 (by rw [k_3]; decide) (by rw [k_3]; decide) (by rw [k_3]; rfl) (by decide) ?_
    refine lv_iconst (v := 2) hx hb dX2_namesOf_104 (by decide) ?_
    refine lv_pc (pc2 := 105) rfl ?_
    exact ty_iret hx hb hr hlk hG hS (by decide) dX2_namesOf_105
  by_cases k_4 : a0.toInt = 104
  · refine lv_tableIn (tgt := 108) hx hb dX2_namesOf_1 (by rw [k_4]; decide) (by rw [k_4]; decide) (by rw [k_4]; rfl) (by decide) ?_
    refine lv_iconst (v := 0) hx hb dX2_namesOf_108 (by decide) ?_
    exact ty_iret hx hb hr hlk hG hS (by decide) dX2_namesOf_109
  by_cases k_5 : a0.toInt = 105
  · refine lv_tableIn (tgt := 108) hx hb dX2_namesOf_1 (by rw [k_5]; decide) (by rw [k_5]; decide) (by rw [k_5]; rfl) (by decide) ?_
    refine lv_iconst (v := 0) hx hb dX2_namesOf_108 (by decide) ?_
    exact ty_iret hx hb hr hlk hG hS (by decide) dX2_namesOf_109
  by_cases k_6 : a0.toInt = 106
  · refine lv_tableIn (tgt := 108) hx hb dX2_namesOf_1 (by rw [k_6]; decide) (by rw [k_6]; decide) (by rw [k_6]; rfl) (by decide) ?_
    refine lv_iconst (v := 0) hx hb dX2_namesOf_108 (by decide) ?_
    exact ty_iret hx hb hr hlk hG hS (by decide) dX2_namesOf_109
  by_cases k_7 : a0.toInt = 107
  · refine lv_tableIn (tgt := 108) hx hb dX2_namesOf_1 (by rw [k_7]; decide) (by rw [k_7]; decide) (by rw [k_7]; rfl) (by decide) ?_
    refine lv_iconst (v := 0) hx hb dX2_namesOf_108 (by decide) ?_
    refine lv_pc (pc2 := 109) rfl ?_
    exact ty_iret hx hb hr hlk hG hS (by decide) dX2_namesOf_109
  by_cases k_8 : a0.toInt = 108
  · refine lv_tableIn (tgt := 104) hx hb dX2_namesOf_1 (by rw [k_8]; decide) (by rw [k_8]; decide) (by rw [k_8]; rfl) (by decide) ?_
    refine lv_iconst (v := 2) hx hb dX2_namesOf_104 (by decide) ?_
    exact ty_iret hx hb hr hlk hG hS (by decide) dX2_namesOf_105
  by_cases k_9 : a0.toInt = 109
  · refine lv_tableIn (tgt := 104) hx hb dX2_namesOf_1 (by rw [k_9]; decide) (by rw [k_9]; decide) (by rw [k_9]; rfl) (by decide) ?_
    refine lv_iconst (v := 2) hx hb dX2_namesOf_104 (by decide) ?_
    exact ty_iret hx hb hr hlk hG hS (by decide) dX2_namesOf_105
  by_cases k_10 : a0.toInt = 110
  · refine lv_tableIn (tgt := 106) hx hb dX2_namesOf_1 (by rw [k_10]; decide) (by rw [k_10]; decide) (by rw [k_10]; rfl) (by decide) ?_
    refine lv_iconst (v := 1) hx hb dX2_namesOf_106 (by decide) ?_
    exact ty_iret hx hb hr hlk hG hS (by decide) dX2_namesOf_107
  by_cases k_11 : a0.toInt = 111
  · refine lv_tableIn (tgt := 104) hx hb dX2_namesOf_1 (by rw [k_11]; decide) (by rw [k_11]; decide) (by rw [k_11]; rfl) (by decide) ?_
    refine lv_iconst (v := 2) hx hb dX2_namesOf_104 (by decide) ?_
    refine lv_pc (pc2 := 105) rfl ?_
    exact ty_iret hx hb hr hlk hG hS (by decide) dX2_namesOf_105
  by_cases k_12 : a0.toInt = 112
  · refine lv_tableIn (tgt := 108) hx hb dX2_namesOf_1 (by rw [k_12]; decide) (by rw [k_12]; decide) (by rw [k_12]; rfl) (by decide) ?_
    refine lv_iconst (v := 0) hx hb dX2_namesOf_108 (by decide) ?_
    exact ty_iret hx hb hr hlk hG hS (by decide) dX2_namesOf_109
  by_cases k_13 : a0.toInt = 113
  · refine lv_tableIn (tgt := 108) hx hb dX2_namesOf_1 (by rw [k_13]; decide) (by rw [k_13]; decide) (by rw [k_13]; rfl) (by decide) ?_
    refine lv_iconst (v := 0) hx hb dX2_namesOf_108 (by decide) ?_
    exact ty_iret hx hb hr hlk hG hS (by decide) dX2_namesOf_109
  by_cases k_14 : a0.toInt = 114
  · refine lv_tableIn (tgt := 106) hx hb dX2_namesOf_1 (by rw [k_14]; decide) (by rw [k_14]; decide) (by rw [k_14]; rfl) (by decide) ?_
    refine lv_iconst (v := 1) hx hb dX2_namesOf_106 (by decide) ?_
    exact ty_iret hx hb hr hlk hG hS (by decide) dX2_namesOf_107
  by_cases k_15 : a0.toInt = 115
  · refine lv_tableIn (tgt := 106) hx hb dX2_namesOf_1 (by rw [k_15]; decide) (by rw [k_15]; decide) (by rw [k_15]; rfl) (by decide) ?_
    refine lv_iconst (v := 1) hx hb dX2_namesOf_106 (by decide) ?_
    refine lv_pc (pc2 := 107) rfl ?_
    exact ty_iret hx hb hr hlk hG hS (by decide) dX2_namesOf_107
  by_cases k_16 : a0.toInt = 116
  · refine lv_tableIn (tgt := 104) hx hb dX2_namesOf_1 (by rw [k_16]; decide) (by rw [k_16]; decide) (by rw [k_16]; rfl) (by decide) ?_
    refine lv_iconst (v := 2) hx hb dX2_namesOf_104 (by decide) ?_
    exact ty_iret hx hb hr hlk hG hS (by decide) dX2_namesOf_105
  by_cases k_17 : a0.toInt = 117
  · refine lv_tableIn (tgt := 108) hx hb dX2_namesOf_1 (by rw [k_17]; decide) (by rw [k_17]; decide) (by rw [k_17]; rfl) (by decide) ?_
    refine lv_iconst (v := 0) hx hb dX2_namesOf_108 (by decide) ?_
    exact ty_iret hx hb hr hlk hG hS (by decide) dX2_namesOf_109
  by_cases k_18 : a0.toInt = 118
  · refine lv_tableIn (tgt := 108) hx hb dX2_namesOf_1 (by rw [k_18]; decide) (by rw [k_18]; decide) (by rw [k_18]; rfl) (by decide) ?_
    refine lv_iconst (v := 0) hx hb dX2_namesOf_108 (by decide) ?_
    exact ty_iret hx hb hr hlk hG hS (by decide) dX2_namesOf_109
  by_cases k_19 : a0.toInt = 119
  · refine lv_tableIn (tgt := 108) hx hb dX2_namesOf_1 (by rw [k_19]; decide) (by rw [k_19]; decide) (by rw [k_19]; rfl) (by decide) ?_
    refine lv_iconst (v := 0) hx hb dX2_namesOf_108 (by decide) ?_
    refine lv_pc (pc2 := 109) rfl ?_
    exact ty_iret hx hb hr hlk hG hS (by decide) dX2_namesOf_109
  by_cases k_20 : a0.toInt = 120
  · refine lv_tableIn (tgt := 108) hx hb dX2_namesOf_1 (by rw [k_20]; decide) (by rw [k_20]; decide) (by rw [k_20]; rfl) (by decide) ?_
    refine lv_iconst (v := 0) hx hb dX2_namesOf_108 (by decide) ?_
    exact ty_iret hx hb hr hlk hG hS (by decide) dX2_namesOf_109
  by_cases k_21 : a0.toInt = 121
  · refine lv_tableIn (tgt := 108) hx hb dX2_namesOf_1 (by rw [k_21]; decide) (by rw [k_21]; decide) (by rw [k_21]; rfl) (by decide) ?_
    refine lv_iconst (v := 0) hx hb dX2_namesOf_108 (by decide) ?_
    exact ty_iret hx hb hr hlk hG hS (by decide) dX2_namesOf_109
  by_cases k_22 : a0.toInt = 122
  · refine lv_tableIn (tgt := 106) hx hb dX2_namesOf_1 (by rw [k_22]; decide) (by rw [k_22]; decide) (by rw [k_22]; rfl) (by decide) ?_
    refine lv_iconst (v := 1) hx hb dX2_namesOf_106 (by decide) ?_
    exact ty_iret hx hb hr hlk hG hS (by decide) dX2_namesOf_107
  refine lv_tableOut (tgt := 108) hx hb dX2_namesOf_1 (by omega) (by decide) ?_
  refine lv_iconst (v := 0) hx hb dX2_namesOf_108 (by decide) ?_
  refine lv_pc (pc2 := 109) rfl ?_
  exact ty_iret hx hb hr hlk hG hS (by decide) dX2_namesOf_109

def uX2_numbersOf : List Cond := .code yX2_numbersOf cX2_numbersOf 1 (some .int) :: ([])
set_option maxHeartbeats 4000000 in
set_option maxRecDepth 100000 in
theorem s_X2_numbersOf (l : Launch) (D : va_G) (t : Nat → Nat) (cI cL cC : ClassId) (gC : Int32) (gE : Int32) (G : Nat) (gW : Nat → Int32) (gA : Nat → Int32) (a0 : Int32) : tM l yX2_numbersOf uX2_numbersOf 0 0 D (gF cI cL cC gC gE G gW gA) (gF cI cL cC gC gE G gW gA) t cI cL cC [.int a0] wr0 (pI (fun r => 0 ≤ r.toInt ∧ r.toInt ≤ 3)) := by
  refine tM.ofW (cc := cX2_numbersOf) (maxL := 1) (ret := (some .int)) (by decide) rfl (Nat.le_of_ble_eq_true rfl) ?_
  intro p e s m below meth c hx hb hr hml hown hts hlk H locs hG hK hE hS ls hl
  have hl : lv_has ls 1 [(0, .int a0)] := hl
  skip
  refine lv_iload_n hx hb dX2_numbersOf_0 rfl (lv_at hl 0 rfl) ?_
  by_cases k_1 : a0.toInt = 101
  · refine lv_tableIn (tgt := 84) hx hb dX2_numbersOf_1 (by rw [k_1]; decide) (by rw [k_1]; decide) (by rw [k_1]; rfl) (by decide) ?_
    refine lv_iconst (v := 1) hx hb dX2_numbersOf_84 (by decide) ?_
    exact ty_iret hx hb hr hlk hG hS (by decide) dX2_numbersOf_85
  by_cases k_2 : a0.toInt = 102
  · refine lv_tableIn (tgt := 86) hx hb dX2_numbersOf_1 (by rw [k_2]; decide) (by rw [k_2]; decide) (by rw [k_2]; rfl) (by decide) ?_
    refine lv_iconst (v := 0) hx hb dX2_numbersOf_86 (by decide) ?_
    exact ty_iret hx hb hr hlk hG hS (by decide) dX2_numbersOf_87
  by_cases k_3 : a0.toInt = 103
  · refine lv_tableIn (tgt := 84) hx hb dX2_numbersOf_1 (by rw [k_3]; decide) (by rw [k_3]; decide) (by rw [k_3]; rfl) (by decide) ?_
    refine lv_iconst (v := 1) hx hb dX2_numbersOf_84 (by decide) ?_
    refine lv_pc (pc2 := 85) rfl ?_
    exact ty_iret hx hb hr hlk hG hS (by decide) dX2_numbersOf_85
  by_cases k_4 : a0.toInt = 104
  · refine lv_tableIn (tgt := 86) hx hb dX2_numbersOf_1 (by rw [k_4]; decide) (by rw [k_4]; decide) (by rw [k_4]; rfl) (by decide) ?_
    refine lv_iconst (v := 0) hx hb dX2_numbersOf_86 (by decide) ?_
    exact ty_iret hx hb hr hlk hG hS (by decide) dX2_numbersOf_87
  by_cases k_5 : a0.toInt = 105
  · refine lv_tableIn (tgt := 86) hx hb dX2_numbersOf_1 (by rw [k_5]; decide) (by rw [k_5]; decide) (by rw [k_5]; rfl) (by decide) ?_
    refine lv_iconst (v := 0) hx hb dX2_numbersOf_86 (by decide) ?_
    exact ty_iret hx hb hr hlk hG hS (by decide) dX2_numbersOf_87
  by_cases k_6 : a0.toInt = 106
  · refine lv_tableIn (tgt := 86) hx hb dX2_numbersOf_1 (by rw [k_6]; decide) (by rw [k_6]; decide) (by rw [k_6]; rfl) (by decide) ?_
    refine lv_iconst (v := 0) hx hb dX2_numbersOf_86 (by decide) ?_
    exact ty_iret hx hb hr hlk hG hS (by decide) dX2_numbersOf_87
  by_cases k_7 : a0.toInt = 107
  · refine lv_tableIn (tgt := 86) hx hb dX2_numbersOf_1 (by rw [k_7]; decide) (by rw [k_7]; decide) (by rw [k_7]; rfl) (by decide) ?_
    refine lv_iconst (v := 0) hx hb dX2_numbersOf_86 (by decide) ?_
    refine lv_pc (pc2 := 87) rfl ?_
    exact ty_iret hx hb hr hlk hG hS (by decide) dX2_numbersOf_87
  by_cases k_8 : a0.toInt = 108
  · refine lv_tableIn (tgt := 80) hx hb dX2_numbersOf_1 (by rw [k_8]; decide) (by rw [k_8]; decide) (by rw [k_8]; rfl) (by decide) ?_
    refine lv_iconst (v := 3) hx hb dX2_numbersOf_80 (by decide) ?_
    exact ty_iret hx hb hr hlk hG hS (by decide) dX2_numbersOf_81
  by_cases k_9 : a0.toInt = 109
  · refine lv_tableIn (tgt := 84) hx hb dX2_numbersOf_1 (by rw [k_9]; decide) (by rw [k_9]; decide) (by rw [k_9]; rfl) (by decide) ?_
    refine lv_iconst (v := 1) hx hb dX2_numbersOf_84 (by decide) ?_
    exact ty_iret hx hb hr hlk hG hS (by decide) dX2_numbersOf_85
  by_cases k_10 : a0.toInt = 110
  · refine lv_tableIn (tgt := 84) hx hb dX2_numbersOf_1 (by rw [k_10]; decide) (by rw [k_10]; decide) (by rw [k_10]; rfl) (by decide) ?_
    refine lv_iconst (v := 1) hx hb dX2_numbersOf_84 (by decide) ?_
    exact ty_iret hx hb hr hlk hG hS (by decide) dX2_numbersOf_85
  by_cases k_11 : a0.toInt = 111
  · refine lv_tableIn (tgt := 86) hx hb dX2_numbersOf_1 (by rw [k_11]; decide) (by rw [k_11]; decide) (by rw [k_11]; rfl) (by decide) ?_
    refine lv_iconst (v := 0) hx hb dX2_numbersOf_86 (by decide) ?_
    refine lv_pc (pc2 := 87) rfl ?_
    exact ty_iret hx hb hr hlk hG hS (by decide) dX2_numbersOf_87
  by_cases k_12 : a0.toInt = 112
  · refine lv_tableIn (tgt := 86) hx hb dX2_numbersOf_1 (by rw [k_12]; decide) (by rw [k_12]; decide) (by rw [k_12]; rfl) (by decide) ?_
    refine lv_iconst (v := 0) hx hb dX2_numbersOf_86 (by decide) ?_
    exact ty_iret hx hb hr hlk hG hS (by decide) dX2_numbersOf_87
  by_cases k_13 : a0.toInt = 113
  · refine lv_tableIn (tgt := 86) hx hb dX2_numbersOf_1 (by rw [k_13]; decide) (by rw [k_13]; decide) (by rw [k_13]; rfl) (by decide) ?_
    refine lv_iconst (v := 0) hx hb dX2_numbersOf_86 (by decide) ?_
    exact ty_iret hx hb hr hlk hG hS (by decide) dX2_numbersOf_87
  by_cases k_14 : a0.toInt = 114
  · refine lv_tableIn (tgt := 84) hx hb dX2_numbersOf_1 (by rw [k_14]; decide) (by rw [k_14]; decide) (by rw [k_14]; rfl) (by decide) ?_
    refine lv_iconst (v := 1) hx hb dX2_numbersOf_84 (by decide) ?_
    exact ty_iret hx hb hr hlk hG hS (by decide) dX2_numbersOf_85
  by_cases k_15 : a0.toInt = 115
  · refine lv_tableIn (tgt := 82) hx hb dX2_numbersOf_1 (by rw [k_15]; decide) (by rw [k_15]; decide) (by rw [k_15]; rfl) (by decide) ?_
    refine lv_iconst (v := 2) hx hb dX2_numbersOf_82 (by decide) ?_
    refine lv_pc (pc2 := 83) rfl ?_
    exact ty_iret hx hb hr hlk hG hS (by decide) dX2_numbersOf_83
  by_cases k_16 : a0.toInt = 116
  · refine lv_tableIn (tgt := 84) hx hb dX2_numbersOf_1 (by rw [k_16]; decide) (by rw [k_16]; decide) (by rw [k_16]; rfl) (by decide) ?_
    refine lv_iconst (v := 1) hx hb dX2_numbersOf_84 (by decide) ?_
    exact ty_iret hx hb hr hlk hG hS (by decide) dX2_numbersOf_85
  refine lv_tableOut (tgt := 86) hx hb dX2_numbersOf_1 (by omega) (by decide) ?_
  refine lv_iconst (v := 0) hx hb dX2_numbersOf_86 (by decide) ?_
  exact ty_iret hx hb hr hlk hG hS (by decide) dX2_numbersOf_87

def uX2_isUpTo : List Cond := .code yX2_isUpTo cX2_isUpTo 2 (some .boolean) :: ([])
set_option maxHeartbeats 4000000 in
set_option maxRecDepth 100000 in
theorem s_X2_isUpTo (l : Launch) (D : va_G) (t : Nat → Nat) (cI cL cC : ClassId) (gC : Int32) (gE : Int32) (G : Nat) (gW : Nat → Int32) (gA : Nat → Int32) (a0 : Int32) (a1 : Int32) : tM l yX2_isUpTo uX2_isUpTo 0 0 D (gF cI cL cC gC gE G gW gA) (gF cI cL cC gC gE G gW gA) t cI cL cC [.int a0, .int a1] wr0 (pI (fun r => r = 0 ∨ r = 1)) := by
  refine tM.ofW (cc := cX2_isUpTo) (maxL := 2) (ret := (some .boolean)) (by decide) rfl (Nat.le_of_ble_eq_true rfl) ?_
  intro p e s m below meth c hx hb hr hml hown hts hlk H locs hG hK hE hS ls hl
  have hl : lv_has ls 2 [(0, .int a0), (1, .int a1)] := hl
  skip
  refine lv_iload_n hx hb dX2_isUpTo_0 rfl (lv_at hl 0 rfl) ?_
  refine lv_if_lt (tgt := 13) hx hb dX2_isUpTo_1 (by decide) (fun c_1 => ?_) (fun c_1 => ?_)
  · skip
    have c_1 : a0.toInt < 0 := q_lt c_1
    refine lv_iconst (v := 0) hx hb dX2_isUpTo_13 (by decide) ?_
    exact ty_zret hx hb hr hlk rfl hG hS (by decide) dX2_isUpTo_14
  · skip
    have c_1 : 0 ≤ a0.toInt := q_nlt c_1
    refine lv_iload_n hx hb dX2_isUpTo_4 rfl (lv_at hl 0 rfl) ?_
    refine lv_iload_n hx hb dX2_isUpTo_5 rfl (lv_at hl 1 rfl) ?_
    refine lv_icmp_gt (tgt := 13) hx hb dX2_isUpTo_6 (by decide) (fun c_2 => ?_) (fun c_2 => ?_)
    · skip
      have c_2 : a1.toInt < a0.toInt := q_lt c_2
      refine lv_pc (pc2 := 13) rfl ?_
      refine lv_iconst (v := 0) hx hb dX2_isUpTo_13 (by decide) ?_
      exact ty_zret hx hb hr hlk rfl hG hS (by decide) dX2_isUpTo_14
    · skip
      have c_2 : a0.toInt ≤ a1.toInt := q_nlt c_2
      refine lv_iconst (v := 1) hx hb dX2_isUpTo_9 (by decide) ?_
      refine lv_goto (tgt := 14) hx hb dX2_isUpTo_10 (by decide) ?_
      exact ty_zret hx hb hr hlk rfl hG hS (by decide) dX2_isUpTo_14

def uX2_areNumbersAsTold : List Cond := .code yX2_areNumbersAsTold cX2_areNumbersAsTold 4 (some .boolean) :: ([.methodLink RX2 10 yX2_isUpTo, .static yX2_isUpTo, .initialized RX2, .constant RX2 9 (1000000), .code yX2_isUpTo cX2_isUpTo 2 (some .boolean)])
set_option maxRecDepth 20000 in
theorem gu_X2_areNumbersAsTold_X2_isUpTo_10 : GoodIn uX2_areNumbersAsTold (va_wsS RX2 10 yX2_isUpTo uX2_isUpTo) := goodIn_r _ [1, 2, 3, 5] rfl (by decide +kernel)
set_option maxHeartbeats 4000000 in
set_option maxRecDepth 100000 in
theorem s_X2_areNumbersAsTold (l : Launch) (D : va_G) (t : Nat → Nat) (cI cL cC : ClassId) (gC : Int32) (gE : Int32) (G : Nat) (gW : Nat → Int32) (gA : Nat → Int32) (a0 : Int32) (a1 : Int32) (a2 : Int32) (a3 : Int32) : tM l yX2_areNumbersAsTold uX2_areNumbersAsTold 1 21 D (gF cI cL cC gC gE G gW gA) (gF cI cL cC gC gE G gW gA) t cI cL cC [.int a0, .int a1, .int a2, .int a3] wr0 (pI (fun r => r = 0 ∨ r = 1)) := by
  refine tM.ofW (cc := cX2_areNumbersAsTold) (maxL := 4) (ret := (some .boolean)) (by decide) rfl (Nat.le_of_ble_eq_true rfl) ?_
  intro p e s m below meth c hx hb hr hml hown hts hlk H locs hG hK hE hS ls hl
  have hl : lv_has ls 4 [(0, .int a0), (1, .int a1), (2, .int a2), (3, .int a3)] := hl
  skip
  refine lv_iload_n hx hb dX2_areNumbersAsTold_0 rfl (lv_at hl 0 rfl) ?_
  by_cases k_1 : a0.toInt = 101
  · refine lv_tableIn (tgt := 142) hx hb dX2_areNumbersAsTold_1 (by rw [k_1]; decide) (by rw [k_1]; decide) (by rw [k_1]; rfl) (by decide) ?_
    refine lv_iload_n hx hb dX2_areNumbersAsTold_142 rfl (lv_at hl 1 rfl) ?_
    refine lv_sipush (v := 1000) hx hb dX2_areNumbersAsTold_143 (by decide) ?_
    refine ty_calli ((W.runS (As := [.int a1, .int 1000]) (rest := []) ⟨hx, hb, hml, hown, hts⟩ (s_X2_isUpTo l D t cI cL cC gC gE G gW gA a1 1000 ) (va_cwS 2 hts gu_X2_areNumbersAsTold_X2_isUpTo_10 rfl rfl rfl (by decide +kernel) ⟨Nat.le_of_ble_eq_true rfl, Nat.le_of_ble_eq_true rfl⟩) (tP_S hG hE) rfl rfl hl.1 rfl (lv_room (Nat.le_of_ble_eq_true rfl)) dX2_areNumbersAsTold_146 ⟨Nat.le_of_ble_eq_true rfl, Nat.le_of_ble_eq_true rfl⟩)) hS (fun _ h => h) (fun r_2 H locs hp_3 hG hS o_4 => ?_)
    rcases hp_3 with rfl | rfl
    · skip
      exact ty_zret hx hb hr hlk rfl hG hS (by decide) dX2_areNumbersAsTold_149
    · skip
      exact ty_zret hx hb hr hlk rfl hG hS (by decide) dX2_areNumbersAsTold_149
  by_cases k_5 : a0.toInt = 102
  · refine lv_tableIn (tgt := 185) hx hb dX2_areNumbersAsTold_1 (by rw [k_5]; decide) (by rw [k_5]; decide) (by rw [k_5]; rfl) (by decide) ?_
    refine lv_pc (pc2 := 185) rfl ?_
    refine lv_iconst (v := 1) hx hb dX2_areNumbersAsTold_185 (by decide) ?_
    exact ty_zret hx hb hr hlk rfl hG hS (by decide) dX2_areNumbersAsTold_186
  by_cases k_6 : a0.toInt = 103
  · refine lv_tableIn (tgt := 150) hx hb dX2_areNumbersAsTold_1 (by rw [k_6]; decide) (by rw [k_6]; decide) (by rw [k_6]; rfl) (by decide) ?_
    refine lv_iload_n hx hb dX2_areNumbersAsTold_150 rfl (lv_at hl 1 rfl) ?_
    refine lv_sipush (v := 10000) hx hb dX2_areNumbersAsTold_151 (by decide) ?_
    refine ty_calli ((W.runS (As := [.int a1, .int 10000]) (rest := []) ⟨hx, hb, hml, hown, hts⟩ (s_X2_isUpTo l D t cI cL cC gC gE G gW gA a1 10000 ) (va_cwS 2 hts gu_X2_areNumbersAsTold_X2_isUpTo_10 rfl rfl rfl (by decide +kernel) ⟨Nat.le_of_ble_eq_true rfl, Nat.le_of_ble_eq_true rfl⟩) (tP_S hG hE) rfl rfl hl.1 rfl (lv_room (Nat.le_of_ble_eq_true rfl)) dX2_areNumbersAsTold_154 ⟨Nat.le_of_ble_eq_true rfl, Nat.le_of_ble_eq_true rfl⟩)) hS (fun _ h => h) (fun r_7 H locs hp_8 hG hS o_9 => ?_)
    rcases hp_8 with rfl | rfl
    · skip
      exact ty_zret hx hb hr hlk rfl hG hS (by decide) dX2_areNumbersAsTold_157
    · skip
      exact ty_zret hx hb hr hlk rfl hG hS (by decide) dX2_areNumbersAsTold_157
  by_cases k_10 : a0.toInt = 104
  · refine lv_tableIn (tgt := 185) hx hb dX2_areNumbersAsTold_1 (by rw [k_10]; decide) (by rw [k_10]; decide) (by rw [k_10]; rfl) (by decide) ?_
    refine lv_iconst (v := 1) hx hb dX2_areNumbersAsTold_185 (by decide) ?_
    refine lv_pc (pc2 := 186) rfl ?_
    exact ty_zret hx hb hr hlk rfl hG hS (by decide) dX2_areNumbersAsTold_186
  by_cases k_11 : a0.toInt = 105
  · refine lv_tableIn (tgt := 185) hx hb dX2_areNumbersAsTold_1 (by rw [k_11]; decide) (by rw [k_11]; decide) (by rw [k_11]; rfl) (by decide) ?_
    refine lv_iconst (v := 1) hx hb dX2_areNumbersAsTold_185 (by decide) ?_
    exact ty_zret hx hb hr hlk rfl hG hS (by decide) dX2_areNumbersAsTold_186
  by_cases k_12 : a0.toInt = 106
  · refine lv_tableIn (tgt := 185) hx hb dX2_areNumbersAsTold_1 (by rw [k_12]; decide) (by rw [k_12]; decide) (by rw [k_12]; rfl) (by decide) ?_
    refine lv_iconst (v := 1) hx hb dX2_areNumbersAsTold_185 (by decide) ?_
    exact ty_zret hx hb hr hlk rfl hG hS (by decide) dX2_areNumbersAsTold_186
  by_cases k_13 : a0.toInt = 107
  · refine lv_tableIn (tgt := 185) hx hb dX2_areNumbersAsTold_1 (by rw [k_13]; decide) (by rw [k_13]; decide) (by rw [k_13]; rfl) (by decide) ?_
    refine lv_iconst (v := 1) hx hb dX2_areNumbersAsTold_185 (by decide) ?_
    exact ty_zret hx hb hr hlk rfl hG hS (by decide) dX2_areNumbersAsTold_186
  by_cases k_14 : a0.toInt = 108
  · refine lv_tableIn (tgt := 104) hx hb dX2_areNumbersAsTold_1 (by rw [k_14]; decide) (by rw [k_14]; decide) (by rw [k_14]; rfl) (by decide) ?_
    refine lv_iload_n hx hb dX2_areNumbersAsTold_104 rfl (lv_at hl 2 rfl) ?_
    refine lv_pc (pc2 := 105) rfl ?_
    refine lv_iconst (v := 1) hx hb dX2_areNumbersAsTold_105 (by decide) ?_
    refine lv_icmp_lt (tgt := 140) hx hb dX2_areNumbersAsTold_106 (by decide) (fun c_15 => ?_) (fun c_15 => ?_)
    · skip
      have c_15 : a2.toInt < 1 := q_lt c_15
      refine lv_iconst (v := 0) hx hb dX2_areNumbersAsTold_140 (by decide) ?_
      exact ty_zret hx hb hr hlk rfl hG hS (by decide) dX2_areNumbersAsTold_141
    · skip
      have c_15 : 1 ≤ a2.toInt := q_nlt c_15
      refine lv_iload_n hx hb dX2_areNumbersAsTold_109 rfl (lv_at hl 2 rfl) ?_
      refine lv_sipush (v := 1000) hx hb dX2_areNumbersAsTold_110 (by decide) ?_
      refine ty_calli ((W.runS (As := [.int a2, .int 1000]) (rest := []) ⟨hx, hb, hml, hown, hts⟩ (s_X2_isUpTo l D t cI cL cC gC gE G gW gA a2 1000 ) (va_cwS 2 hts gu_X2_areNumbersAsTold_X2_isUpTo_10 rfl rfl rfl (by decide +kernel) ⟨Nat.le_of_ble_eq_true rfl, Nat.le_of_ble_eq_true rfl⟩) (tP_S hG hE) rfl rfl hl.1 rfl (lv_room (Nat.le_of_ble_eq_true rfl)) dX2_areNumbersAsTold_113 ⟨Nat.le_of_ble_eq_true rfl, Nat.le_of_ble_eq_true rfl⟩)) hS (fun _ h => h) (fun r_16 H locs hp_17 hG hS o_18 => ?_)
      rcases hp_17 with rfl | rfl
      · skip
        refine lv_if_eq (tgt := 140) hx hb dX2_areNumbersAsTold_116 (by decide) (fun _ => ?_) (fun q => absurd (by decide) q)
        refine lv_pc (pc2 := 140) rfl ?_
        refine lv_iconst (v := 0) hx hb dX2_areNumbersAsTold_140 (by decide) ?_
        exact ty_zret hx hb hr hlk rfl hG hS (by decide) dX2_areNumbersAsTold_141
      · skip
        refine lv_if_eq (tgt := 140) hx hb dX2_areNumbersAsTold_116 (by decide) (fun q => absurd q (by decide)) (fun _ => ?_)
        refine lv_iload_n hx hb dX2_areNumbersAsTold_119 rfl (lv_at hl 1 rfl) ?_
        refine lv_iload_n hx hb dX2_areNumbersAsTold_120 rfl (lv_at hl 2 rfl) ?_
        refine ty_calli ((W.runS (As := [.int a1, .int a2]) (rest := []) ⟨hx, hb, hml, hown, hts⟩ (s_X2_isUpTo l D t cI cL cC gC gE G gW gA a1 a2 ) (va_cwS 2 hts gu_X2_areNumbersAsTold_X2_isUpTo_10 rfl rfl rfl (by decide +kernel) ⟨Nat.le_of_ble_eq_true rfl, Nat.le_of_ble_eq_true rfl⟩) (tP_S hG hE) rfl rfl hl.1 rfl (lv_room (Nat.le_of_ble_eq_true rfl)) dX2_areNumbersAsTold_121 ⟨Nat.le_of_ble_eq_true rfl, Nat.le_of_ble_eq_true rfl⟩)) hS (fun _ h => h) (fun r_19 H locs hp_20 hG hS o_21 => ?_)
        rcases hp_20 with rfl | rfl
        · skip
          refine lv_if_eq (tgt := 140) hx hb dX2_areNumbersAsTold_124 (by decide) (fun _ => ?_) (fun q => absurd (by decide) q)
          refine lv_iconst (v := 0) hx hb dX2_areNumbersAsTold_140 (by decide) ?_
          refine lv_pc (pc2 := 141) rfl ?_
          exact ty_zret hx hb hr hlk rfl hG hS (by decide) dX2_areNumbersAsTold_141
        · skip
          refine lv_if_eq (tgt := 140) hx hb dX2_areNumbersAsTold_124 (by decide) (fun q => absurd q (by decide)) (fun _ => ?_)
          refine lv_iload_n hx hb dX2_areNumbersAsTold_127 rfl (lv_at hl 3 rfl) ?_
          refine lv_ldc hx hb hown (hts (.constant RX2 9 (1000000)) (List.mem_of_getElem? (i := 4) rfl)) dX2_areNumbersAsTold_128 ?_
          refine ty_calli ((W.runS (As := [.int a3, .int 1000000]) (rest := []) ⟨hx, hb, hml, hown, hts⟩ (s_X2_isUpTo l D t cI cL cC gC gE G gW gA a3 1000000 ) (va_cwS 2 hts gu_X2_areNumbersAsTold_X2_isUpTo_10 rfl rfl rfl (by decide +kernel) ⟨Nat.le_of_ble_eq_true rfl, Nat.le_of_ble_eq_true rfl⟩) (tP_S hG hE) rfl rfl hl.1 rfl (lv_room (Nat.le_of_ble_eq_true rfl)) dX2_areNumbersAsTold_130 ⟨Nat.le_of_ble_eq_true rfl, Nat.le_of_ble_eq_true rfl⟩)) hS (fun _ h => h) (fun r_22 H locs hp_23 hG hS o_24 => ?_)
          rcases hp_23 with rfl | rfl
          · skip
            refine lv_if_eq (tgt := 140) hx hb dX2_areNumbersAsTold_133 (by decide) (fun _ => ?_) (fun q => absurd (by decide) q)
            refine lv_iconst (v := 0) hx hb dX2_areNumbersAsTold_140 (by decide) ?_
            exact ty_zret hx hb hr hlk rfl hG hS (by decide) dX2_areNumbersAsTold_141
          · skip
            refine lv_pc (pc2 := 133) rfl ?_
            refine lv_if_eq (tgt := 140) hx hb dX2_areNumbersAsTold_133 (by decide) (fun q => absurd q (by decide)) (fun _ => ?_)
            refine lv_iconst (v := 1) hx hb dX2_areNumbersAsTold_136 (by decide) ?_
            refine lv_goto (tgt := 141) hx hb dX2_areNumbersAsTold_137 (by decide) ?_
            exact ty_zret hx hb hr hlk rfl hG hS (by decide) dX2_areNumbersAsTold_141
  by_cases k_25 : a0.toInt = 109
  · refine lv_tableIn (tgt := 142) hx hb dX2_areNumbersAsTold_1 (by rw [k_25]; decide) (by rw [k_25]; decide) (by rw [k_25]; rfl) (by decide) ?_
    refine lv_iload_n hx hb dX2_areNumbersAsTold_142 rfl (lv_at hl 1 rfl) ?_
    refine lv_sipush (v := 1000) hx hb dX2_areNumbersAsTold_143 (by decide) ?_
    refine ty_calli ((W.runS (As := [.int a1, .int 1000]) (rest := []) ⟨hx, hb, hml, hown, hts⟩ (s_X2_isUpTo l D t cI cL cC gC gE G gW gA a1 1000 ) (va_cwS 2 hts gu_X2_areNumbersAsTold_X2_isUpTo_10 rfl rfl rfl (by decide +kernel) ⟨Nat.le_of_ble_eq_true rfl, Nat.le_of_ble_eq_true rfl⟩) (tP_S hG hE) rfl rfl hl.1 rfl (lv_room (Nat.le_of_ble_eq_true rfl)) dX2_areNumbersAsTold_146 ⟨Nat.le_of_ble_eq_true rfl, Nat.le_of_ble_eq_true rfl⟩)) hS (fun _ h => h) (fun r_26 H locs hp_27 hG hS o_28 => ?_)
    rcases hp_27 with rfl | rfl
    · skip
      exact ty_zret hx hb hr hlk rfl hG hS (by decide) dX2_areNumbersAsTold_149
    · skip
      refine lv_pc (pc2 := 149) rfl ?_
      exact ty_zret hx hb hr hlk rfl hG hS (by decide) dX2_areNumbersAsTold_149
  by_cases k_29 : a0.toInt = 110
  · refine lv_tableIn (tgt := 178) hx hb dX2_areNumbersAsTold_1 (by rw [k_29]; decide) (by rw [k_29]; decide) (by rw [k_29]; rfl) (by decide) ?_
    refine lv_iload_n hx hb dX2_areNumbersAsTold_178 rfl (lv_at hl 1 rfl) ?_
    refine lv_bipush (v := 100) hx hb dX2_areNumbersAsTold_179 (by decide) ?_
    refine ty_calli ((W.runS (As := [.int a1, .int 100]) (rest := []) ⟨hx, hb, hml, hown, hts⟩ (s_X2_isUpTo l D t cI cL cC gC gE G gW gA a1 100 ) (va_cwS 2 hts gu_X2_areNumbersAsTold_X2_isUpTo_10 rfl rfl rfl (by decide +kernel) ⟨Nat.le_of_ble_eq_true rfl, Nat.le_of_ble_eq_true rfl⟩) (tP_S hG hE) rfl rfl hl.1 rfl (lv_room (Nat.le_of_ble_eq_true rfl)) dX2_areNumbersAsTold_181 ⟨Nat.le_of_ble_eq_true rfl, Nat.le_of_ble_eq_true rfl⟩)) hS (fun _ h => h) (fun r_30 H locs hp_31 hG hS o_32 => ?_)
    rcases hp_31 with rfl | rfl
    · skip
      exact ty_zret hx hb hr hlk rfl hG hS (by decide) dX2_areNumbersAsTold_184
    · skip
      exact ty_zret hx hb hr hlk rfl hG hS (by decide) dX2_areNumbersAsTold_184
  by_cases k_33 : a0.toInt = 111
  · refine lv_tableIn (tgt := 185) hx hb dX2_areNumbersAsTold_1 (by rw [k_33]; decide) (by rw [k_33]; decide) (by rw [k_33]; rfl) (by decide) ?_
    refine lv_iconst (v := 1) hx hb dX2_areNumbersAsTold_185 (by decide) ?_
    exact ty_zret hx hb hr hlk rfl hG hS (by decide) dX2_areNumbersAsTold_186
  by_cases k_34 : a0.toInt = 112
  · refine lv_tableIn (tgt := 185) hx hb dX2_areNumbersAsTold_1 (by rw [k_34]; decide) (by rw [k_34]; decide) (by rw [k_34]; rfl) (by decide) ?_
    refine lv_pc (pc2 := 185) rfl ?_
    refine lv_iconst (v := 1) hx hb dX2_areNumbersAsTold_185 (by decide) ?_
    exact ty_zret hx hb hr hlk rfl hG hS (by decide) dX2_areNumbersAsTold_186
  by_cases k_35 : a0.toInt = 113
  · refine lv_tableIn (tgt := 185) hx hb dX2_areNumbersAsTold_1 (by rw [k_35]; decide) (by rw [k_35]; decide) (by rw [k_35]; rfl) (by decide) ?_
    refine lv_iconst (v := 1) hx hb dX2_areNumbersAsTold_185 (by decide) ?_
    exact ty_zret hx hb hr hlk rfl hG hS (by decide) dX2_areNumbersAsTold_186
  by_cases k_36 : a0.toInt = 114
  · refine lv_tableIn (tgt := 178) hx hb dX2_areNumbersAsTold_1 (by rw [k_36]; decide) (by rw [k_36]; decide) (by rw [k_36]; rfl) (by decide) ?_
    refine lv_iload_n hx hb dX2_areNumbersAsTold_178 rfl (lv_at hl 1 rfl) ?_
    refine lv_bipush (v := 100) hx hb dX2_areNumbersAsTold_179 (by decide) ?_
    refine ty_calli ((W.runS (As := [.int a1, .int 100]) (rest := []) ⟨hx, hb, hml, hown, hts⟩ (s_X2_isUpTo l D t cI cL cC gC gE G gW gA a1 100 ) (va_cwS 2 hts gu_X2_areNumbersAsTold_X2_isUpTo_10 rfl rfl rfl (by decide +kernel) ⟨Nat.le_of_ble_eq_true rfl, Nat.le_of_ble_eq_true rfl⟩) (tP_S hG hE) rfl rfl hl.1 rfl (lv_room (Nat.le_of_ble_eq_true rfl)) dX2_areNumbersAsTold_181 ⟨Nat.le_of_ble_eq_true rfl, Nat.le_of_ble_eq_true rfl⟩)) hS (fun _ h => h) (fun r_37 H locs hp_38 hG hS o_39 => ?_)
    rcases hp_38 with rfl | rfl
    · skip
      exact ty_zret hx hb hr hlk rfl hG hS (by decide) dX2_areNumbersAsTold_184
    · skip
      refine lv_pc (pc2 := 184) rfl ?_
      exact ty_zret hx hb hr hlk rfl hG hS (by decide) dX2_areNumbersAsTold_184
  by_cases k_40 : a0.toInt = 115
  · refine lv_tableIn (tgt := 80) hx hb dX2_areNumbersAsTold_1 (by rw [k_40]; decide) (by rw [k_40]; decide) (by rw [k_40]; rfl) (by decide) ?_
    refine lv_iload_n hx hb dX2_areNumbersAsTold_80 rfl (lv_at hl 1 rfl) ?_
    refine lv_ldc hx hb hown (hts (.constant RX2 9 (1000000)) (List.mem_of_getElem? (i := 4) rfl)) dX2_areNumbersAsTold_81 ?_
    refine ty_calli ((W.runS (As := [.int a1, .int 1000000]) (rest := []) ⟨hx, hb, hml, hown, hts⟩ (s_X2_isUpTo l D t cI cL cC gC gE G gW gA a1 1000000 ) (va_cwS 2 hts gu_X2_areNumbersAsTold_X2_isUpTo_10 rfl rfl rfl (by decide +kernel) ⟨Nat.le_of_ble_eq_true rfl, Nat.le_of_ble_eq_true rfl⟩) (tP_S hG hE) rfl rfl hl.1 rfl (lv_room (Nat.le_of_ble_eq_true rfl)) dX2_areNumbersAsTold_83 ⟨Nat.le_of_ble_eq_true rfl, Nat.le_of_ble_eq_true rfl⟩)) hS (fun _ h => h) (fun r_41 H locs hp_42 hG hS o_43 => ?_)
    rcases hp_42 with rfl | rfl
    · skip
      refine lv_if_eq (tgt := 102) hx hb dX2_areNumbersAsTold_86 (by decide) (fun _ => ?_) (fun q => absurd (by decide) q)
      refine lv_iconst (v := 0) hx hb dX2_areNumbersAsTold_102 (by decide) ?_
      exact ty_zret hx hb hr hlk rfl hG hS (by decide) dX2_areNumbersAsTold_103
    · skip
      refine lv_if_eq (tgt := 102) hx hb dX2_areNumbersAsTold_86 (by decide) (fun q => absurd q (by decide)) (fun _ => ?_)
      refine lv_pc (pc2 := 89) rfl ?_
      refine lv_iload_n hx hb dX2_areNumbersAsTold_89 rfl (lv_at hl 2 rfl) ?_
      refine lv_ldc hx hb hown (hts (.constant RX2 9 (1000000)) (List.mem_of_getElem? (i := 4) rfl)) dX2_areNumbersAsTold_90 ?_
      refine ty_calli ((W.runS (As := [.int a2, .int 1000000]) (rest := []) ⟨hx, hb, hml, hown, hts⟩ (s_X2_isUpTo l D t cI cL cC gC gE G gW gA a2 1000000 ) (va_cwS 2 hts gu_X2_areNumbersAsTold_X2_isUpTo_10 rfl rfl rfl (by decide +kernel) ⟨Nat.le_of_ble_eq_true rfl, Nat.le_of_ble_eq_true rfl⟩) (tP_S hG hE) rfl rfl hl.1 rfl (lv_room (Nat.le_of_ble_eq_true rfl)) dX2_areNumbersAsTold_92 ⟨Nat.le_of_ble_eq_true rfl, Nat.le_of_ble_eq_true rfl⟩)) hS (fun _ h => h) (fun r_44 H locs hp_45 hG hS o_46 => ?_)
      rcases hp_45 with rfl | rfl
      · skip
        refine lv_if_eq (tgt := 102) hx hb dX2_areNumbersAsTold_95 (by decide) (fun _ => ?_) (fun q => absurd (by decide) q)
        refine lv_iconst (v := 0) hx hb dX2_areNumbersAsTold_102 (by decide) ?_
        exact ty_zret hx hb hr hlk rfl hG hS (by decide) dX2_areNumbersAsTold_103
      · skip
        refine lv_if_eq (tgt := 102) hx hb dX2_areNumbersAsTold_95 (by decide) (fun q => absurd q (by decide)) (fun _ => ?_)
        refine lv_iconst (v := 1) hx hb dX2_areNumbersAsTold_98 (by decide) ?_
        refine lv_pc (pc2 := 99) rfl ?_
        refine lv_goto (tgt := 103) hx hb dX2_areNumbersAsTold_99 (by decide) ?_
        exact ty_zret hx hb hr hlk rfl hG hS (by decide) dX2_areNumbersAsTold_103
  by_cases k_47 : a0.toInt = 116
  · refine lv_tableIn (tgt := 158) hx hb dX2_areNumbersAsTold_1 (by rw [k_47]; decide) (by rw [k_47]; decide) (by rw [k_47]; rfl) (by decide) ?_
    refine lv_iload_n hx hb dX2_areNumbersAsTold_158 rfl (lv_at hl 1 rfl) ?_
    refine lv_iconst (v := 1) hx hb dX2_areNumbersAsTold_159 (by decide) ?_
    refine lv_icmp_lt (tgt := 176) hx hb dX2_areNumbersAsTold_160 (by decide) (fun c_48 => ?_) (fun c_48 => ?_)
    · skip
      have c_48 : a1.toInt < 1 := q_lt c_48
      refine lv_iconst (v := 0) hx hb dX2_areNumbersAsTold_176 (by decide) ?_
      exact ty_zret hx hb hr hlk rfl hG hS (by decide) dX2_areNumbersAsTold_177
    · skip
      have c_48 : 1 ≤ a1.toInt := q_nlt c_48
      refine lv_iload_n hx hb dX2_areNumbersAsTold_163 rfl (lv_at hl 1 rfl) ?_
      refine lv_pc (pc2 := 164) rfl ?_
      refine lv_bipush (v := 12) hx hb dX2_areNumbersAsTold_164 (by decide) ?_
      refine ty_calli ((W.runS (As := [.int a1, .int 12]) (rest := []) ⟨hx, hb, hml, hown, hts⟩ (s_X2_isUpTo l D t cI cL cC gC gE G gW gA a1 12 ) (va_cwS 2 hts gu_X2_areNumbersAsTold_X2_isUpTo_10 rfl rfl rfl (by decide +kernel) ⟨Nat.le_of_ble_eq_true rfl, Nat.le_of_ble_eq_true rfl⟩) (tP_S hG hE) rfl rfl hl.1 rfl (lv_room (Nat.le_of_ble_eq_true rfl)) dX2_areNumbersAsTold_166 ⟨Nat.le_of_ble_eq_true rfl, Nat.le_of_ble_eq_true rfl⟩)) hS (fun _ h => h) (fun r_49 H locs hp_50 hG hS o_51 => ?_)
      rcases hp_50 with rfl | rfl
      · skip
        refine lv_if_eq (tgt := 176) hx hb dX2_areNumbersAsTold_169 (by decide) (fun _ => ?_) (fun q => absurd (by decide) q)
        refine lv_iconst (v := 0) hx hb dX2_areNumbersAsTold_176 (by decide) ?_
        exact ty_zret hx hb hr hlk rfl hG hS (by decide) dX2_areNumbersAsTold_177
      · skip
        refine lv_if_eq (tgt := 176) hx hb dX2_areNumbersAsTold_169 (by decide) (fun q => absurd q (by decide)) (fun _ => ?_)
        refine lv_iconst (v := 1) hx hb dX2_areNumbersAsTold_172 (by decide) ?_
        refine lv_goto (tgt := 177) hx hb dX2_areNumbersAsTold_173 (by decide) ?_
        refine lv_pc (pc2 := 177) rfl ?_
        exact ty_zret hx hb hr hlk rfl hG hS (by decide) dX2_areNumbersAsTold_177
  refine lv_tableOut (tgt := 185) hx hb dX2_areNumbersAsTold_1 (by omega) (by decide) ?_
  refine lv_iconst (v := 1) hx hb dX2_areNumbersAsTold_185 (by decide) ?_
  exact ty_zret hx hb hr hlk rfl hG hS (by decide) dX2_areNumbersAsTold_186

def uX6_rainIn : List Cond := .code yX6_rainIn cX6_rainIn 2 (some .int) :: ([.initialized RX9, .static yX9_isOutside, .fieldLink RX6 9 "RiverModel$Sky" "rains" "[I", .code yX9_isOutside cX9_isOutside 3 (some .boolean)] ++ wsX60)
set_option maxRecDepth 20000 in
theorem gu_X6_rainIn_X9_isOutside_n : GoodIn uX6_rainIn (uX9_isOutside) := goodIn_r _ [4] rfl (by decide +kernel)
set_option maxHeartbeats 4000000 in
set_option maxRecDepth 100000 in
theorem s_X6_rainIn (l : Launch) (D : va_G) (t : Nat → Nat) (cI cL cC : ClassId) (gC : Int32) (gE : Int32) (G : Nat) (gW : Nat → Int32) (gA : Nat → Int32) (a0 : Nat) (a1 : Int32) (k_a0 : t a0 = 4) : tM l yX6_rainIn uX6_rainIn 1 22 D (gF cI cL cC gC gE G gW gA) (gF cI cL cC gC gE G gW gA) t cI cL cC [.ref a0, .int a1] wr0 (pI (fun r => True)) := by
  refine tM.ofW (cc := cX6_rainIn) (maxL := 2) (ret := (some .int)) (by decide) rfl (Nat.le_of_ble_eq_true rfl) ?_
  intro p e s m below meth c hx hb hr hml hown hts hlk H locs hG hK hE hS ls hl
  have hl : lv_has ls 2 [(0, .ref a0), (1, .int a1)] := hl
  have in6 : ∀ w ∈ wsX60, w ∈ uX6_rainIn := fun w h => List.mem_cons_of_mem _ (List.mem_append_right _ h)
  refine lv_iload_n hx hb dX6_rainIn_0 rfl (lv_at hl 1 rfl) ?_
  refine lv_iconst (v := 0) hx hb dX6_rainIn_1 (by decide) ?_
  refine lv_bipush (v := 95) hx hb dX6_rainIn_2 (by decide) ?_
  refine ty_calli (tRun (va_runSN (As := [.int a1, .int 0, .int 95]) (rest := []) ⟨hx, hb, hml, hown, hts⟩ (s_X9_isOutside l D t cI cL cC gC gE G gW gA a1 0 95 0 95 (by decide) (by decide) ) ⟨(va_cnB 3 hts gu_X6_rainIn_X9_isOutside_n rfl rfl rfl (hE.2.1 _ (List.mem_of_getElem? (i := 11) rfl)) (hts (.initialized RX9) (List.mem_of_getElem? (i := 1) rfl)) (by decide +kernel) ⟨Nat.le_of_ble_eq_true rfl, Nat.le_of_ble_eq_true rfl⟩), (hts (.static yX9_isOutside) (List.mem_of_getElem? (i := 2) rfl)), trivial⟩ (tP_S hG hE) rfl rfl hl.1 rfl (lv_room (Nat.le_of_ble_eq_true rfl)) dX6_rainIn_4 ⟨Nat.le_of_ble_eq_true rfl, Nat.le_of_ble_eq_true rfl⟩)) hS (fun _ h => h) (fun r_1 H locs hp_2 hG hS o_3 => ?_)
  rcases hp_2 with ⟨rfl, hc_1⟩ | ⟨rfl, hc_2, hc_3⟩
  · skip
    refine lv_if_eq (tgt := 14) hx hb dX6_rainIn_7 (by decide) (fun q => absurd q (by decide)) (fun _ => ?_)
    refine lv_iconst (v := 0) hx hb dX6_rainIn_10 (by decide) ?_
    refine lv_goto (tgt := 20) hx hb dX6_rainIn_11 (by decide) ?_
    refine lv_pc (pc2 := 20) rfl ?_
    exact ty_iret hx hb hr hlk hG hS True.intro dX6_rainIn_20
  · skip
    refine lv_if_eq (tgt := 14) hx hb dX6_rainIn_7 (by decide) (fun _ => ?_) (fun q => absurd (by decide) q)
    refine lv_aload_n hx hb dX6_rainIn_14 rfl (lv_at hl 0 rfl) ?_
    obtain ⟨r_4, r_6, at_8, h_5, h_7⟩ := gF_o4 hG k_a0
    refine va_get (D := D) (ci := 5) (v := .ref r_4) (C := RX6) (T := TX6) (N := 2) hx hb hts in6 hown hK (va_one at_8) 0 rfl rfl 0 (by decide) (hts (.fieldLink RX6 9 "RiverModel$Sky" "rains" "[I") (List.mem_of_getElem? (i := 3) rfl)) (fun _ h9 => h9) rfl dX6_rainIn_15 ?_
    refine lv_iload_n hx hb dX6_rainIn_18 rfl (lv_at hl 1 rfl) ?_
    obtain ⟨f_9, at_10⟩ := gF_o15 hG h_5
    have b_11 : vp_in a1 96 := (q_in (by omega) (by omega))
    refine va_iald hx hb hK (va_one at_10) 0 0 rfl rfl b_11 dX6_rainIn_19 ?_
    refine lv_topi (fun x_12 e_13 => ?_)
    exact ty_iret hx hb hr hlk hG hS True.intro dX6_rainIn_20

def uX6_tempIn : List Cond := .code yX6_tempIn cX6_tempIn 2 (some .int) :: ([.initialized RX9, .static yX9_isOutside, .fieldLink RX6 15 "RiverModel$Sky" "temps" "[I", .code yX9_isOutside cX9_isOutside 3 (some .boolean)] ++ wsX60)
set_option maxRecDepth 20000 in
theorem gu_X6_tempIn_X9_isOutside_n : GoodIn uX6_tempIn (uX9_isOutside) := goodIn_r _ [4] rfl (by decide +kernel)
set_option maxHeartbeats 4000000 in
set_option maxRecDepth 100000 in
theorem s_X6_tempIn (l : Launch) (D : va_G) (t : Nat → Nat) (cI cL cC : ClassId) (gC : Int32) (gE : Int32) (G : Nat) (gW : Nat → Int32) (gA : Nat → Int32) (a0 : Nat) (a1 : Int32) (k_a0 : t a0 = 4) : tM l yX6_tempIn uX6_tempIn 1 22 D (gF cI cL cC gC gE G gW gA) (gF cI cL cC gC gE G gW gA) t cI cL cC [.ref a0, .int a1] wr0 (pI (fun r => True)) := by
  refine tM.ofW (cc := cX6_tempIn) (maxL := 2) (ret := (some .int)) (by decide) rfl (Nat.le_of_ble_eq_true rfl) ?_
  intro p e s m below meth c hx hb hr hml hown hts hlk H locs hG hK hE hS ls hl
  have hl : lv_has ls 2 [(0, .ref a0), (1, .int a1)] := hl
  have in6 : ∀ w ∈ wsX60, w ∈ uX6_tempIn := fun w h => List.mem_cons_of_mem _ (List.mem_append_right _ h)
  refine lv_iload_n hx hb dX6_tempIn_0 rfl (lv_at hl 1 rfl) ?_
  refine lv_iconst (v := 0) hx hb dX6_tempIn_1 (by decide) ?_
  refine lv_bipush (v := 95) hx hb dX6_tempIn_2 (by decide) ?_
  refine ty_calli (tRun (va_runSN (As := [.int a1, .int 0, .int 95]) (rest := []) ⟨hx, hb, hml, hown, hts⟩ (s_X9_isOutside l D t cI cL cC gC gE G gW gA a1 0 95 0 95 (by decide) (by decide) ) ⟨(va_cnB 3 hts gu_X6_tempIn_X9_isOutside_n rfl rfl rfl (hE.2.1 _ (List.mem_of_getElem? (i := 11) rfl)) (hts (.initialized RX9) (List.mem_of_getElem? (i := 1) rfl)) (by decide +kernel) ⟨Nat.le_of_ble_eq_true rfl, Nat.le_of_ble_eq_true rfl⟩), (hts (.static yX9_isOutside) (List.mem_of_getElem? (i := 2) rfl)), trivial⟩ (tP_S hG hE) rfl rfl hl.1 rfl (lv_room (Nat.le_of_ble_eq_true rfl)) dX6_tempIn_4 ⟨Nat.le_of_ble_eq_true rfl, Nat.le_of_ble_eq_true rfl⟩)) hS (fun _ h => h) (fun r_1 H locs hp_2 hG hS o_3 => ?_)
  rcases hp_2 with ⟨rfl, hc_4⟩ | ⟨rfl, hc_5, hc_6⟩
  · skip
    refine lv_if_eq (tgt := 15) hx hb dX6_tempIn_7 (by decide) (fun q => absurd q (by decide)) (fun _ => ?_)
    refine lv_bipush (v := 10) hx hb dX6_tempIn_10 (by decide) ?_
    refine lv_goto (tgt := 21) hx hb dX6_tempIn_12 (by decide) ?_
    refine lv_pc (pc2 := 21) rfl ?_
    exact ty_iret hx hb hr hlk hG hS True.intro dX6_tempIn_21
  · skip
    refine lv_if_eq (tgt := 15) hx hb dX6_tempIn_7 (by decide) (fun _ => ?_) (fun q => absurd (by decide) q)
    refine lv_aload_n hx hb dX6_tempIn_15 rfl (lv_at hl 0 rfl) ?_
    obtain ⟨r_4, r_6, at_8, h_5, h_7⟩ := gF_o4 hG k_a0
    refine va_get (D := D) (ci := 5) (v := .ref r_6) (C := RX6) (T := TX6) (N := 2) hx hb hts in6 hown hK (va_one at_8) 0 rfl rfl 1 (by decide) (hts (.fieldLink RX6 15 "RiverModel$Sky" "temps" "[I") (List.mem_of_getElem? (i := 3) rfl)) (fun _ h9 => h9) rfl dX6_tempIn_16 ?_
    refine lv_iload_n hx hb dX6_tempIn_19 rfl (lv_at hl 1 rfl) ?_
    obtain ⟨f_9, at_10⟩ := gF_o16 hG h_7
    have b_11 : vp_in a1 96 := (q_in (by omega) (by omega))
    refine va_iald hx hb hK (va_one at_10) 0 0 rfl rfl b_11 dX6_tempIn_20 ?_
    refine lv_topi (fun x_12 e_13 => ?_)
    exact ty_iret hx hb hr hlk hG hS True.intro dX6_tempIn_21

def uX7_nextByte : List Cond := .code yX7_nextByte cX7_nextByte 1 (some .int) :: ([.fieldLink RX7 22 "RiverModel$Text" "at" "I", .fieldLink RX7 18 "RiverModel$Text" "length" "I", .fieldLink RX7 9 "RiverModel$Text" "bytes" "[I"] ++ wsX70)
set_option maxHeartbeats 4000000 in
set_option maxRecDepth 100000 in
theorem s_X7_nextByte (l : Launch) (D : va_G) (t : Nat → Nat) (cI cL cC : ClassId) (gC : Int32) (gE : Int32) (G : Nat) (gW : Nat → Int32) (gA : Nat → Int32) (a0 : Nat) (k_a0 : t a0 = 2) : tM l yX7_nextByte uX7_nextByte 0 0 D (gF cI cL cC gC gE G gW gA) (gF cI cL cC gC gE G gW gA) t cI cL cC [.ref a0] wrT (pI (fun r => True)) := by
  refine tM.ofW (cc := cX7_nextByte) (maxL := 1) (ret := (some .int)) (by decide) rfl (Nat.le_of_ble_eq_true rfl) ?_
  intro p e s m below meth c hx hb hr hml hown hts hlk H locs hG hK hE hS ls hl
  have hl : lv_has ls 1 [(0, .ref a0)] := hl
  have in7 : ∀ w ∈ wsX70, w ∈ uX7_nextByte := fun w h => List.mem_cons_of_mem _ (List.mem_append_right _ h)
  refine lv_aload_n hx hb dX7_nextByte_0 rfl (lv_at hl 0 rfl) ?_
  obtain ⟨r_1, r_3, v_5, at_7, h_2, h_4, h_6⟩ := gF_o2 hG k_a0
  refine va_get (D := D) (ci := 6) (v := .int v_5) (C := RX7) (T := TX7) (N := 4) hx hb hts in7 hown hK (va_one at_7) 0 rfl rfl 3 (by decide) (hts (.fieldLink RX7 22 "RiverModel$Text" "at" "I") (List.mem_of_getElem? (i := 1) rfl)) (fun _ h9 => h9) rfl dX7_nextByte_1 ?_
  refine lv_aload_n hx hb dX7_nextByte_4 rfl (lv_at hl 0 rfl) ?_
  refine va_get (D := D) (ci := 6) (v := .int gC) (C := RX7) (T := TX7) (N := 4) hx hb hts in7 hown hK (va_one at_7) 0 rfl rfl 2 (by decide) (hts (.fieldLink RX7 18 "RiverModel$Text" "length" "I") (List.mem_of_getElem? (i := 2) rfl)) (fun _ h9 => h9) rfl dX7_nextByte_5 ?_
  refine lv_icmp_lt (tgt := 13) hx hb dX7_nextByte_8 (by decide) (fun c_8 => ?_) (fun c_8 => ?_)
  · skip
    have c_8 : v_5.toInt < gC.toInt := q_lt c_8
    refine lv_aload_n hx hb dX7_nextByte_13 rfl (lv_at hl 0 rfl) ?_
    refine lv_dup hx hb dX7_nextByte_14 rfl ?_
    refine lv_pc (pc2 := 15) rfl ?_
    refine va_get (D := D) (ci := 6) (v := .int v_5) (C := RX7) (T := TX7) (N := 4) hx hb hts in7 hown hK (va_one at_7) 0 rfl rfl 3 (by decide) (hts (.fieldLink RX7 22 "RiverModel$Text" "at" "I") (List.mem_of_getElem? (i := 1) rfl)) (fun _ h9 => h9) rfl dX7_nextByte_15 ?_
    refine lv_iconst (v := 1) hx hb dX7_nextByte_18 (by decide) ?_
    refine lv_iadd hx hb dX7_nextByte_19 ?_
    refine lv_topi (fun x_9 e_10 => ?_)
    have i_x_9 : x_9.toInt = v_5.toInt + 1 := by rw [e_10]; exact (q_add (by rw [show (1 : Int32).toInt = 1 by decide]; omega) (by rw [show (1 : Int32).toInt = 1 by decide]; omega)).trans (by rw [show (1 : Int32).toInt = 1 by decide])
    refine ty_put (D := D) (ci := 6) (v := .int x_9) (ty := .int) (C := RX7) (T := TX7) (N := 4) (F2 := (gF cI cL cC gC gE G gW gA)) hx hb hts in7 tyX7 tyX7_ok nmX7 hown hK hG hS at_7 (by rw [k_a0]; rfl) rfl 3 (by decide) (hts (.fieldLink RX7 22 "RiverModel$Text" "at" "I") (List.mem_of_getElem? (i := 1) rfl)) (fun _ h9 => h9) rfl (by decide +kernel) rfl rfl (Nat.le_of_ble_eq_true rfl) (by rw [k_a0]; exact ⟨r_1, r_3, x_9, rfl, h_2, h_4, (by omega)⟩) tFF dX7_nextByte_20 (fun H locs hG hS at_11 o_12 => ?_)
    have at_11 : va_at D vwCl (a0, .inr (6, [.ref r_1, .ref r_3, .int gC, .int x_9])) H := at_11
    refine lv_aload_n hx hb dX7_nextByte_23 rfl (lv_at hl 0 rfl) ?_
    refine va_get (D := D) (ci := 6) (v := .ref r_1) (C := RX7) (T := TX7) (N := 4) hx hb hts in7 hown hK (va_one at_11) 0 rfl rfl 0 (by decide) (hts (.fieldLink RX7 9 "RiverModel$Text" "bytes" "[I") (List.mem_of_getElem? (i := 3) rfl)) (fun _ h9 => h9) rfl dX7_nextByte_24 ?_
    refine lv_aload_n hx hb dX7_nextByte_27 rfl (lv_at hl 0 rfl) ?_
    refine va_get (D := D) (ci := 6) (v := .int x_9) (C := RX7) (T := TX7) (N := 4) hx hb hts in7 hown hK (va_one at_11) 0 rfl rfl 3 (by decide) (hts (.fieldLink RX7 22 "RiverModel$Text" "at" "I") (List.mem_of_getElem? (i := 1) rfl)) (fun _ h9 => h9) rfl dX7_nextByte_28 ?_
    refine lv_pc (pc2 := 31) rfl ?_
    refine lv_iconst (v := 1) hx hb dX7_nextByte_31 (by decide) ?_
    refine lv_isub hx hb dX7_nextByte_32 ?_
    refine lv_topi (fun x_13 e_14 => ?_)
    have i_x_13 : x_13.toInt = x_9.toInt - 1 := by rw [e_14]; exact (q_sub (by rw [show (1 : Int32).toInt = 1 by decide]; omega) (by rw [show (1 : Int32).toInt = 1 by decide]; omega)).trans (by rw [show (1 : Int32).toInt = 1 by decide])
    obtain ⟨f_15, at_16⟩ := gF_o10 hG h_2
    have b_17 : vp_in x_13 400 := (q_in (by omega) (by omega))
    refine va_iald hx hb hK (va_one at_16) 0 0 rfl rfl b_17 dX7_nextByte_33 ?_
    refine lv_topi (fun x_18 e_19 => ?_)
    exact ty_iret hx hb hr hlk hG hS True.intro dX7_nextByte_34
  · skip
    have c_8 : gC.toInt ≤ v_5.toInt := q_nlt c_8
    refine lv_iconst (v := (-1)) hx hb dX7_nextByte_11 (by decide) ?_
    exact ty_iret hx hb hr hlk hG hS True.intro dX7_nextByte_12

def uX7_isAtFigure : List Cond := .code yX7_isAtFigure cX7_isAtFigure 1 (some .boolean) :: ([.fieldLink RX7 22 "RiverModel$Text" "at" "I", .fieldLink RX7 18 "RiverModel$Text" "length" "I", .fieldLink RX7 9 "RiverModel$Text" "bytes" "[I", .initialized RX9, .static yX9_isOutside, .code yX9_isOutside cX9_isOutside 3 (some .boolean)] ++ wsX70)
set_option maxRecDepth 20000 in
theorem gu_X7_isAtFigure_X9_isOutside_n : GoodIn uX7_isAtFigure (uX9_isOutside) := goodIn_r _ [6] rfl (by decide +kernel)
set_option maxHeartbeats 4000000 in
set_option maxRecDepth 100000 in
theorem s_X7_isAtFigure (l : Launch) (D : va_G) (t : Nat → Nat) (cI cL cC : ClassId) (gC : Int32) (gE : Int32) (G : Nat) (gW : Nat → Int32) (gA : Nat → Int32) (a0 : Nat) (k_a0 : t a0 = 2) : tM l yX7_isAtFigure uX7_isAtFigure 1 22 D (gF cI cL cC gC gE G gW gA) (gF cI cL cC gC gE G gW gA) t cI cL cC [.ref a0] wr0 (pI (fun r => r = 0 ∨ r = 1)) := by
  refine tM.ofW (cc := cX7_isAtFigure) (maxL := 1) (ret := (some .boolean)) (by decide) rfl (Nat.le_of_ble_eq_true rfl) ?_
  intro p e s m below meth c hx hb hr hml hown hts hlk H locs hG hK hE hS ls hl
  have hl : lv_has ls 1 [(0, .ref a0)] := hl
  have in7 : ∀ w ∈ wsX70, w ∈ uX7_isAtFigure := fun w h => List.mem_cons_of_mem _ (List.mem_append_right _ h)
  refine lv_aload_n hx hb dX7_isAtFigure_0 rfl (lv_at hl 0 rfl) ?_
  obtain ⟨r_1, r_3, v_5, at_7, h_2, h_4, h_6⟩ := gF_o2 hG k_a0
  refine va_get (D := D) (ci := 6) (v := .int v_5) (C := RX7) (T := TX7) (N := 4) hx hb hts in7 hown hK (va_one at_7) 0 rfl rfl 3 (by decide) (hts (.fieldLink RX7 22 "RiverModel$Text" "at" "I") (List.mem_of_getElem? (i := 1) rfl)) (fun _ h9 => h9) rfl dX7_isAtFigure_1 ?_
  refine lv_aload_n hx hb dX7_isAtFigure_4 rfl (lv_at hl 0 rfl) ?_
  refine va_get (D := D) (ci := 6) (v := .int gC) (C := RX7) (T := TX7) (N := 4) hx hb hts in7 hown hK (va_one at_7) 0 rfl rfl 2 (by decide) (hts (.fieldLink RX7 18 "RiverModel$Text" "length" "I") (List.mem_of_getElem? (i := 2) rfl)) (fun _ h9 => h9) rfl dX7_isAtFigure_5 ?_
  refine lv_icmp_ge (tgt := 34) hx hb dX7_isAtFigure_8 (by decide) (fun c_8 => ?_) (fun c_8 => ?_)
  · skip
    have c_8 : gC.toInt ≤ v_5.toInt := q_le c_8
    refine lv_iconst (v := 0) hx hb dX7_isAtFigure_34 (by decide) ?_
    exact ty_zret hx hb hr hlk rfl hG hS (by decide) dX7_isAtFigure_35
  · skip
    have c_8 : v_5.toInt < gC.toInt := q_nle c_8
    refine lv_pc (pc2 := 11) rfl ?_
    refine lv_aload_n hx hb dX7_isAtFigure_11 rfl (lv_at hl 0 rfl) ?_
    refine va_get (D := D) (ci := 6) (v := .ref r_1) (C := RX7) (T := TX7) (N := 4) hx hb hts in7 hown hK (va_one at_7) 0 rfl rfl 0 (by decide) (hts (.fieldLink RX7 9 "RiverModel$Text" "bytes" "[I") (List.mem_of_getElem? (i := 3) rfl)) (fun _ h9 => h9) rfl dX7_isAtFigure_12 ?_
    refine lv_aload_n hx hb dX7_isAtFigure_15 rfl (lv_at hl 0 rfl) ?_
    refine va_get (D := D) (ci := 6) (v := .int v_5) (C := RX7) (T := TX7) (N := 4) hx hb hts in7 hown hK (va_one at_7) 0 rfl rfl 3 (by decide) (hts (.fieldLink RX7 22 "RiverModel$Text" "at" "I") (List.mem_of_getElem? (i := 1) rfl)) (fun _ h9 => h9) rfl dX7_isAtFigure_16 ?_
    obtain ⟨f_9, at_10⟩ := gF_o10 hG h_2
    have b_11 : vp_in v_5 400 := (q_in (by omega) (by omega))
    refine va_iald hx hb hK (va_one at_10) 0 0 rfl rfl b_11 dX7_isAtFigure_19 ?_
    refine lv_topi (fun x_12 e_13 => ?_)
    refine lv_bipush (v := 48) hx hb dX7_isAtFigure_20 (by decide) ?_
    refine lv_bipush (v := 57) hx hb dX7_isAtFigure_22 (by decide) ?_
    refine ty_calli (tRun (va_runSN (As := [.int x_12, .int 48, .int 57]) (rest := []) ⟨hx, hb, hml, hown, hts⟩ (s_X9_isOutside l D t cI cL cC gC gE G gW gA x_12 48 57 48 57 (by decide) (by decide) ) ⟨(va_cnB 3 hts gu_X7_isAtFigure_X9_isOutside_n rfl rfl rfl (hE.2.1 _ (List.mem_of_getElem? (i := 7) rfl)) (hts (.initialized RX9) (List.mem_of_getElem? (i := 4) rfl)) (by decide +kernel) ⟨Nat.le_of_ble_eq_true rfl, Nat.le_of_ble_eq_true rfl⟩), (hts (.static yX9_isOutside) (List.mem_of_getElem? (i := 5) rfl)), trivial⟩ (tP_S hG hE) rfl rfl hl.1 rfl (lv_room (Nat.le_of_ble_eq_true rfl)) dX7_isAtFigure_24 ⟨Nat.le_of_ble_eq_true rfl, Nat.le_of_ble_eq_true rfl⟩)) hS (fun _ h => h) (fun r_14 H locs hp_15 hG hS o_16 => ?_)
    have at_7 := va_at.keptC at_7 o_16 k_a0 rfl
    have at_10 := va_at.keptC at_10 o_16 h_2 rfl
    rcases hp_15 with ⟨rfl, hc_7⟩ | ⟨rfl, hc_8, hc_9⟩
    · skip
      refine lv_pc (pc2 := 27) rfl ?_
      refine lv_if_ne (tgt := 34) hx hb dX7_isAtFigure_27 (by decide) (fun _ => ?_) (fun q => absurd q (by decide))
      refine lv_iconst (v := 0) hx hb dX7_isAtFigure_34 (by decide) ?_
      exact ty_zret hx hb hr hlk rfl hG hS (by decide) dX7_isAtFigure_35
    · skip
      refine lv_if_ne (tgt := 34) hx hb dX7_isAtFigure_27 (by decide) (fun q => absurd rfl q) (fun _ => ?_)
      refine lv_iconst (v := 1) hx hb dX7_isAtFigure_30 (by decide) ?_
      refine lv_goto (tgt := 35) hx hb dX7_isAtFigure_31 (by decide) ?_
      exact ty_zret hx hb hr hlk rfl hG hS (by decide) dX7_isAtFigure_35

def uX7_readName : List Cond := .code yX7_readName cX7_readName 3 (some .boolean) :: ([.methodLink RX7 48 yX7_nextByte, .instanceMethod yX7_nextByte, .selects RX7 yX7_nextByte yX7_nextByte, .initialized RX7, .fieldLink RX7 15 "RiverModel$Text" "row" "[I", .initialized RX9, .static yX9_isNoStore, .code yX7_nextByte cX7_nextByte 1 (some .int), .fieldLink RX7 22 "RiverModel$Text" "at" "I", .fieldLink RX7 18 "RiverModel$Text" "length" "I", .fieldLink RX7 9 "RiverModel$Text" "bytes" "[I", .code yX9_isNoStore cX9_isNoStore 1 (some .boolean)] ++ wsX70)
set_option maxRecDepth 20000 in
theorem gu_X7_readName_X7_nextByte_48 : GoodIn uX7_readName (wsV RX7 48 RX7 yX7_nextByte uX7_nextByte) := goodIn_r _ [1, 2, 3, 4, 8, 9, 10, 11, 13, 14, 15, 16] rfl (by decide +kernel)
set_option maxRecDepth 20000 in
theorem gu_X7_readName_X9_isNoStore_n : GoodIn uX7_readName (uX9_isNoStore) := goodIn_r _ [12] rfl (by decide +kernel)
set_option maxHeartbeats 4000000 in
set_option maxRecDepth 100000 in
theorem s_X7_readName (l : Launch) (D : va_G) (t : Nat → Nat) (cI cL cC : ClassId) (gC : Int32) (gE : Int32) (G : Nat) (gW : Nat → Int32) (gA : Nat → Int32) (a0 : Nat) (a1 : Int32) (h0c : 0 ≤ a1.toInt) (h5c : a1.toInt ≤ 5) (k_a0 : t a0 = 2) : tM l yX7_readName uX7_readName 1 20 D (gF cI cL cC gC gE G gW gA) (gF cI cL cC gC gE G gW gA) t cI cL cC [.ref a0, .int a1] wrT (pI (fun r => r = 0 ∨ r = 1)) := by
  refine tM.ofW (cc := cX7_readName) (maxL := 3) (ret := (some .boolean)) (by decide) rfl (Nat.le_of_ble_eq_true rfl) ?_
  intro p e s m below meth c hx hb hr hml hown hts hlk H locs hG hK hE hS ls hl
  have hl : lv_has ls 3 [(0, .ref a0), (1, .int a1)] := hl
  have in7 : ∀ w ∈ wsX70, w ∈ uX7_readName := fun w h => List.mem_cons_of_mem _ (List.mem_append_right _ h)
  refine lv_aload_n hx hb dX7_readName_0 rfl (lv_at hl 0 rfl) ?_
  obtain ⟨r_1, r_3, v_5, at_7, h_2, h_4, h_6⟩ := gF_o2 hG k_a0
  refine ty_calli ((W.runV (As := []) (rest := []) ⟨hx, hb, hml, hown, hts⟩ (s_X7_nextByte l D t cI cL cC gC gE G gW gA a0 k_a0) (cwV 0 hts gu_X7_readName_X7_nextByte_48 rfl rfl rfl (by decide +kernel) ⟨Nat.le_of_ble_eq_true rfl, Nat.le_of_ble_eq_true rfl⟩) (tP_V hG hE at_7 rfl) rfl rfl hl.1 rfl (lv_room (Nat.le_of_ble_eq_true rfl)) dX7_readName_1 ⟨Nat.le_of_ble_eq_true rfl, Nat.le_of_ble_eq_true rfl⟩)) hS (fun _ h => h) (fun r_8 H locs hp_9 hG hS o_10 => ?_)
  refine lv_bipush (v := 97) hx hb dX7_readName_4 (by decide) ?_
  refine lv_isub hx hb dX7_readName_6 ?_
  refine lv_topi (fun x_11 e_12 => ?_)
  refine lv_istore_n (lv' := [(2, .int x_11), (0, .ref a0), (1, .int a1)]) hx hb dX7_readName_7 rfl hl (by decide) rfl (fun ls hl => ?_)
  refine lv_aload_n hx hb dX7_readName_8 rfl (lv_at hl 1 rfl) ?_
  obtain ⟨r_13, r_15, v_17, at_19, h_14, h_16, h_18⟩ := gF_o2 hG k_a0
  refine va_get (D := D) (ci := 6) (v := .ref r_15) (C := RX7) (T := TX7) (N := 4) hx hb hts in7 hown hK (va_one at_19) 0 rfl rfl 1 (by decide) (hts (.fieldLink RX7 15 "RiverModel$Text" "row" "[I") (List.mem_of_getElem? (i := 5) rfl)) (fun _ h9 => h9) rfl dX7_readName_9 ?_
  refine lv_pc (pc2 := 12) rfl ?_
  refine lv_iload_n hx hb dX7_readName_12 rfl (lv_at hl 2 rfl) ?_
  refine lv_iload_n hx hb dX7_readName_13 rfl (lv_at hl 0 rfl) ?_
  obtain ⟨f_20, at_21⟩ := gF_o11 hG h_16
  have b_22 : vp_in a1 6 := (q_in (by omega) (by omega))
  refine ty_iast (F2 := (gF cI cL cC gC gE G gW gA)) hx hb hK hG hS 0 at_21 (by rw [h_16]; rfl) rfl b_22 (by rw [h_16]; exact ⟨_, rfl⟩) tFF dX7_readName_14 (fun H locs hG hS at_23 o_24 => ?_)
  have at_19 := va_at.keptK at_19 o_24 h_16 k_a0 rfl
  refine lv_iload_n hx hb dX7_readName_15 rfl (lv_at hl 0 rfl) ?_
  refine ty_calli (tRun (va_runSN (As := [.int x_11]) (rest := []) ⟨hx, hb, hml, hown, hts⟩ (s_X9_isNoStore l D t cI cL cC gC gE G gW gA x_11 ) ⟨(va_cnB 1 hts gu_X7_readName_X9_isNoStore_n rfl rfl rfl (hE.2.1 _ (List.mem_of_getElem? (i := 6) rfl)) (hts (.initialized RX9) (List.mem_of_getElem? (i := 6) rfl)) (by decide +kernel) ⟨Nat.le_of_ble_eq_true rfl, Nat.le_of_ble_eq_true rfl⟩), (hts (.static yX9_isNoStore) (List.mem_of_getElem? (i := 7) rfl)), trivial⟩ (tP_S hG hE) rfl rfl hl.1 rfl (lv_room (Nat.le_of_ble_eq_true rfl)) dX7_readName_16 ⟨Nat.le_of_ble_eq_true rfl, Nat.le_of_ble_eq_true rfl⟩)) hS (fun k h => by simp [wr0] at h) (fun r_25 H locs hp_26 hG hS o_27 => ?_)
  have at_19 := va_at.keptC at_19 o_27 k_a0 rfl
  rcases hp_26 with ⟨rfl, hc_10⟩ | ⟨rfl, hc_11, hc_12⟩
  · skip
    refine lv_if_ne (tgt := 26) hx hb dX7_readName_19 (by decide) (fun _ => ?_) (fun q => absurd q (by decide))
    refine lv_iconst (v := 0) hx hb dX7_readName_26 (by decide) ?_
    exact ty_zret hx hb hr hlk rfl hG hS (by decide) dX7_readName_27
  · skip
    refine lv_pc (pc2 := 19) rfl ?_
    refine lv_if_ne (tgt := 26) hx hb dX7_readName_19 (by decide) (fun q => absurd rfl q) (fun _ => ?_)
    refine lv_iconst (v := 1) hx hb dX7_readName_22 (by decide) ?_
    refine lv_goto (tgt := 27) hx hb dX7_readName_23 (by decide) ?_
    exact ty_zret hx hb hr hlk rfl hG hS (by decide) dX7_readName_27

def uX7_readNumber : List Cond := .code yX7_readNumber cX7_readNumber 4 (some .boolean) :: ([.methodLink RX7 48 yX7_nextByte, .instanceMethod yX7_nextByte, .selects RX7 yX7_nextByte yX7_nextByte, .initialized RX7, .fieldLink RX7 15 "RiverModel$Text" "row" "[I", .methodLink RX7 71 yX7_isAtFigure, .instanceMethod yX7_isAtFigure, .selects RX7 yX7_isAtFigure yX7_isAtFigure, .code yX7_nextByte cX7_nextByte 1 (some .int), .fieldLink RX7 22 "RiverModel$Text" "at" "I", .fieldLink RX7 18 "RiverModel$Text" "length" "I", .fieldLink RX7 9 "RiverModel$Text" "bytes" "[I", .code yX7_isAtFigure cX7_isAtFigure 1 (some .boolean), .initialized RX9, .static yX9_isOutside, .code yX9_isOutside cX9_isOutside 3 (some .boolean)] ++ wsX70)
set_option maxRecDepth 20000 in
theorem gu_X7_readNumber_X7_nextByte_48 : GoodIn uX7_readNumber (wsV RX7 48 RX7 yX7_nextByte uX7_nextByte) := goodIn_r _ [1, 2, 3, 4, 9, 10, 11, 12, 17, 18, 19, 20] rfl (by decide +kernel)
set_option maxRecDepth 20000 in
theorem gu_X7_readNumber_X7_isAtFigure_71 : GoodIn uX7_readNumber (wsV RX7 71 RX7 yX7_isAtFigure uX7_isAtFigure) := goodIn_r _ [6, 7, 8, 4, 13, 10, 11, 12, 14, 15, 16, 17, 18, 19, 20] rfl (by decide +kernel)
set_option maxHeartbeats 4000000 in
set_option maxRecDepth 100000 in
theorem s_X7_readNumber (l : Launch) (D : va_G) (t : Nat → Nat) (cI cL cC : ClassId) (gC : Int32) (gE : Int32) (G : Nat) (gW : Nat → Int32) (gA : Nat → Int32) (a0 : Nat) (a1 : Int32) (h0c : 0 ≤ a1.toInt) (h5c : a1.toInt ≤ 5) (k_a0 : t a0 = 2) : tM l yX7_readNumber uX7_readNumber 2 42 D (gF cI cL cC gC gE G gW gA) (gF cI cL cC gC gE G gW gA) t cI cL cC [.ref a0, .int a1] wrT (pI (fun r => r = 0 ∨ r = 1)) := by
  refine tM.ofW (cc := cX7_readNumber) (maxL := 4) (ret := (some .boolean)) (by decide) rfl (Nat.le_of_ble_eq_true rfl) ?_
  intro p e s m below meth c hx hb hr hml hown hts hlk H locs hG hK hE hS ls hl
  have hl : lv_has ls 4 [(0, .ref a0), (1, .int a1)] := hl
  have in7 : ∀ w ∈ wsX70, w ∈ uX7_readNumber := fun w h => List.mem_cons_of_mem _ (List.mem_append_right _ h)
  refine lv_aload_n hx hb dX7_readNumber_0 rfl (lv_at hl 0 rfl) ?_
  obtain ⟨r_1, r_3, v_5, at_7, h_2, h_4, h_6⟩ := gF_o2 hG k_a0
  refine ty_calli ((W.runV (As := []) (rest := []) ⟨hx, hb, hml, hown, hts⟩ (s_X7_nextByte l D t cI cL cC gC gE G gW gA a0 k_a0) (cwV 0 hts gu_X7_readNumber_X7_nextByte_48 rfl rfl rfl (by decide +kernel) ⟨Nat.le_of_ble_eq_true rfl, Nat.le_of_ble_eq_true rfl⟩) (tP_V hG hE at_7 rfl) rfl rfl hl.1 rfl (lv_room (Nat.le_of_ble_eq_true rfl)) dX7_readNumber_1 ⟨Nat.le_of_ble_eq_true rfl, Nat.le_of_ble_eq_true rfl⟩)) hS (fun _ h => h) (fun r_8 H locs hp_9 hG hS o_10 => ?_)
  refine lv_bipush (v := 44) hx hb dX7_readNumber_4 (by decide) ?_
  refine lv_icmp_eq (tgt := 11) hx hb dX7_readNumber_6 (by decide) (fun c_11 => ?_) (fun c_11 => ?_)
  · skip
    have c_11 : r_8.toInt = 44 := q_eq c_11
    refine lv_iconst (v := 0) hx hb dX7_readNumber_11 (by decide) ?_
    refine lv_istore_n (lv' := [(2, .int 0), (0, .ref a0), (1, .int a1)]) hx hb dX7_readNumber_12 rfl hl (by decide) rfl (fun ls hl => ?_)
    refine lv_iconst (v := 0) hx hb dX7_readNumber_13 (by decide) ?_
    refine lv_pc (pc2 := 14) rfl ?_
    refine lv_istore_n (lv' := [(3, .int 0), (2, .int 0), (0, .ref a0), (1, .int a1)]) hx hb dX7_readNumber_14 rfl hl (by decide) rfl (fun ls hl => ?_)
    refine lv_pc (pc2 := 15) rfl ?_
    refine lp_gen (fun WW hWW => ?_)
    have kx : ∀ (yf : Int32) (yn : Int32) (H1 : Heap) (locs1 : List Loc) (ls1 : Array Slot), 0 ≤ yf.toInt → yf.toInt ≤ 7 → tG D (gF cI cL cC gC gE G gW gA) t H1 → tF t wrT s.heap H1 locs1 → lv_has ls1 4 [(3, .int yf), (2, .int yn), (0, .ref a0), (1, .int a1)] → WW H1 locs1 (F0 m 47 ls1 []) := by
      intro yf yn H locs ls v0 v1 hG hS hl
      refine (hWW _ _ _).mpr ?_
      refine lv_aload_n hx hb dX7_readNumber_47 rfl (lv_at hl 2 rfl) ?_
      obtain ⟨r_12, r_14, v_16, at_18, h_13, h_15, h_17⟩ := gF_o2 hG k_a0
      refine va_get (D := D) (ci := 6) (v := .ref r_14) (C := RX7) (T := TX7) (N := 4) hx hb hts in7 hown hK (va_one at_18) 0 rfl rfl 1 (by decide) (hts (.fieldLink RX7 15 "RiverModel$Text" "row" "[I") (List.mem_of_getElem? (i := 5) rfl)) (fun _ h9 => h9) rfl dX7_readNumber_48 ?_
      refine lv_iload_n hx hb dX7_readNumber_51 rfl (lv_at hl 3 rfl) ?_
      refine lv_iload_n hx hb dX7_readNumber_52 rfl (lv_at hl 1 rfl) ?_
      obtain ⟨f_19, at_20⟩ := gF_o11 hG h_15
      have b_21 : vp_in a1 6 := (q_in (by omega) (by omega))
      refine ty_iast (F2 := (gF cI cL cC gC gE G gW gA)) hx hb hK hG hS 0 at_20 (by rw [h_15]; rfl) rfl b_21 (by rw [h_15]; exact ⟨_, rfl⟩) tFF dX7_readNumber_53 (fun H locs hG hS at_22 o_23 => ?_)
      have at_18 := va_at.keptK at_18 o_23 h_15 k_a0 rfl
      refine lv_iload_n hx hb dX7_readNumber_54 rfl (lv_at hl 0 rfl) ?_
      refine lv_if_le (tgt := 62) hx hb dX7_readNumber_55 (by decide) (fun c_24 => ?_) (fun c_24 => ?_)
      · skip
        have c_24 : yf.toInt ≤ 0 := q_le c_24
        refine lv_pc (pc2 := 62) rfl ?_
        refine lv_iconst (v := 0) hx hb dX7_readNumber_62 (by decide) ?_
        exact ty_zret hx hb hr hlk rfl hG hS (by decide) dX7_readNumber_63
      · skip
        have c_24 : 0 < yf.toInt := q_nle c_24
        refine lv_iconst (v := 1) hx hb dX7_readNumber_58 (by decide) ?_
        refine lv_goto (tgt := 63) hx hb dX7_readNumber_59 (by decide) ?_
        exact ty_zret hx hb hr hlk rfl hG hS (by decide) dX7_readNumber_63
    have loop : ∀ (k : Nat) (yf : Int32) (yn : Int32) (H1 : Heap) (locs1 : List Loc) (ls1 : Array Slot), 7 - yf.toInt ≤ (k : Int) → 0 ≤ yf.toInt → yf.toInt ≤ 7 → tG D (gF cI cL cC gC gE G gW gA) t H1 → tF t wrT s.heap H1 locs1 → lv_has ls1 4 [(3, .int yf), (2, .int yn), (0, .ref a0), (1, .int a1)] → WW H1 locs1 (F0 m 15 ls1 []) := by
      intro k
      induction k with
      | zero =>
        intro yf yn H locs ls hk v0 v1 hG hS hl
        refine (hWW _ _ _).mpr ?_
        refine lv_iload_n hx hb dX7_readNumber_15 rfl (lv_at hl 0 rfl) ?_
        refine lv_bipush (v := 7) hx hb dX7_readNumber_16 (by decide) ?_
        refine lv_icmp_ge (tgt := 47) hx hb dX7_readNumber_18 (by decide) (fun c_25 => ?_) (fun c_25 => ?_)
        · skip
          have c_25 : 7 ≤ yf.toInt := q_le c_25
          exact (hWW _ _ _).mp (kx yf yn H locs ls (by omega) (by omega) hG hS (lv_sub hl [0, 1, 2, 3] rfl))
        · skip
          have c_25 : yf.toInt < 7 := q_nle c_25
          refine lv_pc (pc2 := 21) rfl ?_
          refine lv_aload_n hx hb dX7_readNumber_21 rfl (lv_at hl 2 rfl) ?_
          obtain ⟨r_26, r_28, v_30, at_32, h_27, h_29, h_31⟩ := gF_o2 hG k_a0
          refine ty_calli ((W.runV (As := []) (rest := []) ⟨hx, hb, hml, hown, hts⟩ (s_X7_isAtFigure l D t cI cL cC gC gE G gW gA a0 k_a0) (cwV 0 hts gu_X7_readNumber_X7_isAtFigure_71 rfl rfl rfl (by decide +kernel) ⟨Nat.le_of_ble_eq_true rfl, Nat.le_of_ble_eq_true rfl⟩) (tP_V hG hE at_32 rfl) rfl rfl hl.1 rfl (lv_room (Nat.le_of_ble_eq_true rfl)) dX7_readNumber_22 ⟨Nat.le_of_ble_eq_true rfl, Nat.le_of_ble_eq_true rfl⟩)) hS (fun k h => by simp [wr0] at h) (fun r_33 H locs hp_34 hG hS o_35 => ?_)
          have at_32 := va_at.keptC at_32 o_35 k_a0 rfl
          rcases hp_34 with rfl | rfl
          · skip
            refine lv_if_eq (tgt := 47) hx hb dX7_readNumber_25 (by decide) (fun _ => ?_) (fun q => absurd (by decide) q)
            exact (hWW _ _ _).mp (kx yf yn H locs ls (by omega) (by omega) hG hS (lv_sub hl [0, 1, 2, 3] rfl))
          · skip
            refine lv_if_eq (tgt := 47) hx hb dX7_readNumber_25 (by decide) (fun q => absurd q (by decide)) (fun _ => ?_)
            refine lv_iload_n hx hb dX7_readNumber_28 rfl (lv_at hl 1 rfl) ?_
            refine lv_bipush (v := 10) hx hb dX7_readNumber_29 (by decide) ?_
            refine lv_imul hx hb dX7_readNumber_31 ?_
            refine lv_topi (fun x_36 e_37 => ?_)
            refine lv_aload_n hx hb dX7_readNumber_32 rfl (lv_at hl 2 rfl) ?_
            refine lv_pc (pc2 := 33) rfl ?_
            refine ty_calli ((W.runV (As := []) (rest := [.int x_36]) ⟨hx, hb, hml, hown, hts⟩ (s_X7_nextByte l D t cI cL cC gC gE G gW gA a0 k_a0) (cwV 0 hts gu_X7_readNumber_X7_nextByte_48 rfl rfl rfl (by decide +kernel) ⟨Nat.le_of_ble_eq_true rfl, Nat.le_of_ble_eq_true rfl⟩) (tP_V hG hE at_32 rfl) rfl rfl hl.1 rfl (lv_room (Nat.le_of_ble_eq_true rfl)) dX7_readNumber_33 ⟨Nat.le_of_ble_eq_true rfl, Nat.le_of_ble_eq_true rfl⟩)) hS (fun _ h => h) (fun r_38 H locs hp_39 hG hS o_40 => ?_)
            refine lv_iadd hx hb dX7_readNumber_36 ?_
            refine lv_topi (fun x_41 e_42 => ?_)
            refine lv_bipush (v := 48) hx hb dX7_readNumber_37 (by decide) ?_
            refine lv_isub hx hb dX7_readNumber_39 ?_
            refine lv_topi (fun x_43 e_44 => ?_)
            refine lv_istore_n (lv' := [(2, .int x_43), (3, .int yf), (0, .ref a0), (1, .int a1)]) hx hb dX7_readNumber_40 rfl hl (by decide) rfl (fun ls hl => ?_)
            obtain ⟨x_45, e_46⟩ : ∃ y : Int32, y = yf + Int32.ofInt 1 := ⟨_, rfl⟩
            have i_x_45 : x_45.toInt = yf.toInt + 1 := by rw [e_46, show Int32.ofInt 1 = 1 by decide]; exact (q_add (by rw [show (1 : Int32).toInt = 1 by decide]; omega) (by rw [show (1 : Int32).toInt = 1 by decide]; omega)).trans (by rw [show (1 : Int32).toInt = 1 by decide])
            refine lv_iinc (v := x_45) (lv' := [(3, .int x_45), (2, .int x_43), (0, .ref a0), (1, .int a1)]) hx hb dX7_readNumber_41 hl (k := 1) rfl e_46.symm (by decide) rfl (fun ls hl => ?_)
            refine lv_goto (tgt := 15) hx hb dX7_readNumber_44 (by decide) ?_
            exfalso; omega
      | succ k ih =>
        intro yf yn H locs ls hk v0 v1 hG hS hl
        refine (hWW _ _ _).mpr ?_
        refine lv_iload_n hx hb dX7_readNumber_15 rfl (lv_at hl 0 rfl) ?_
        refine lv_pc (pc2 := 16) rfl ?_
        refine lv_bipush (v := 7) hx hb dX7_readNumber_16 (by decide) ?_
        refine lv_icmp_ge (tgt := 47) hx hb dX7_readNumber_18 (by decide) (fun c_47 => ?_) (fun c_47 => ?_)
        · skip
          have c_47 : 7 ≤ yf.toInt := q_le c_47
          exact (hWW _ _ _).mp (kx yf yn H locs ls (by omega) (by omega) hG hS (lv_sub hl [0, 1, 2, 3] rfl))
        · skip
          have c_47 : yf.toInt < 7 := q_nle c_47
          refine lv_aload_n hx hb dX7_readNumber_21 rfl (lv_at hl 2 rfl) ?_
          obtain ⟨r_48, r_50, v_52, at_54, h_49, h_51, h_53⟩ := gF_o2 hG k_a0
          refine ty_calli ((W.runV (As := []) (rest := []) ⟨hx, hb, hml, hown, hts⟩ (s_X7_isAtFigure l D t cI cL cC gC gE G gW gA a0 k_a0) (cwV 0 hts gu_X7_readNumber_X7_isAtFigure_71 rfl rfl rfl (by decide +kernel) ⟨Nat.le_of_ble_eq_true rfl, Nat.le_of_ble_eq_true rfl⟩) (tP_V hG hE at_54 rfl) rfl rfl hl.1 rfl (lv_room (Nat.le_of_ble_eq_true rfl)) dX7_readNumber_22 ⟨Nat.le_of_ble_eq_true rfl, Nat.le_of_ble_eq_true rfl⟩)) hS (fun k h => by simp [wr0] at h) (fun r_55 H locs hp_56 hG hS o_57 => ?_)
          have at_54 := va_at.keptC at_54 o_57 k_a0 rfl
          rcases hp_56 with rfl | rfl
          · skip
            refine lv_if_eq (tgt := 47) hx hb dX7_readNumber_25 (by decide) (fun _ => ?_) (fun q => absurd (by decide) q)
            exact (hWW _ _ _).mp (kx yf yn H locs ls (by omega) (by omega) hG hS (lv_sub hl [0, 1, 2, 3] rfl))
          · skip
            refine lv_if_eq (tgt := 47) hx hb dX7_readNumber_25 (by decide) (fun q => absurd q (by decide)) (fun _ => ?_)
            refine lv_iload_n hx hb dX7_readNumber_28 rfl (lv_at hl 1 rfl) ?_
            refine lv_bipush (v := 10) hx hb dX7_readNumber_29 (by decide) ?_
            refine lv_pc (pc2 := 31) rfl ?_
            refine lv_imul hx hb dX7_readNumber_31 ?_
            refine lv_topi (fun x_58 e_59 => ?_)
            refine lv_aload_n hx hb dX7_readNumber_32 rfl (lv_at hl 2 rfl) ?_
            refine ty_calli ((W.runV (As := []) (rest := [.int x_58]) ⟨hx, hb, hml, hown, hts⟩ (s_X7_nextByte l D t cI cL cC gC gE G gW gA a0 k_a0) (cwV 0 hts gu_X7_readNumber_X7_nextByte_48 rfl rfl rfl (by decide +kernel) ⟨Nat.le_of_ble_eq_true rfl, Nat.le_of_ble_eq_true rfl⟩) (tP_V hG hE at_54 rfl) rfl rfl hl.1 rfl (lv_room (Nat.le_of_ble_eq_true rfl)) dX7_readNumber_33 ⟨Nat.le_of_ble_eq_true rfl, Nat.le_of_ble_eq_true rfl⟩)) hS (fun _ h => h) (fun r_60 H locs hp_61 hG hS o_62 => ?_)
            refine lv_iadd hx hb dX7_readNumber_36 ?_
            refine lv_topi (fun x_63 e_64 => ?_)
            refine lv_bipush (v := 48) hx hb dX7_readNumber_37 (by decide) ?_
            refine lv_isub hx hb dX7_readNumber_39 ?_
            refine lv_topi (fun x_65 e_66 => ?_)
            refine lv_istore_n (lv' := [(2, .int x_65), (3, .int yf), (0, .ref a0), (1, .int a1)]) hx hb dX7_readNumber_40 rfl hl (by decide) rfl (fun ls hl => ?_)
            obtain ⟨x_67, e_68⟩ : ∃ y : Int32, y = yf + Int32.ofInt 1 := ⟨_, rfl⟩
            have i_x_67 : x_67.toInt = yf.toInt + 1 := by rw [e_68, show Int32.ofInt 1 = 1 by decide]; exact (q_add (by rw [show (1 : Int32).toInt = 1 by decide]; omega) (by rw [show (1 : Int32).toInt = 1 by decide]; omega)).trans (by rw [show (1 : Int32).toInt = 1 by decide])
            refine lv_iinc (v := x_67) (lv' := [(3, .int x_67), (2, .int x_65), (0, .ref a0), (1, .int a1)]) hx hb dX7_readNumber_41 hl (k := 1) rfl e_68.symm (by decide) rfl (fun ls hl => ?_)
            refine lv_pc (pc2 := 44) rfl ?_
            refine lv_goto (tgt := 15) hx hb dX7_readNumber_44 (by decide) ?_
            exact (hWW _ _ _).mp (ih x_67 x_65 H locs ls (by omega) (by omega) (by omega) hG hS (lv_sub hl [0, 1, 2, 3] rfl))
    have hz_yf : (0 : Int32).toInt = 0 := by decide
    have hz_yn : (0 : Int32).toInt = 0 := by decide
    exact loop (7 - 0 : Int).toNat 0 0 H locs ls (by omega) (by omega) (by omega) hG hS (lv_sub hl [0, 1, 2, 3] rfl)
  · skip
    have c_11 : r_8.toInt ≠ 44 := q_ne c_11
    refine lv_iconst (v := 0) hx hb dX7_readNumber_9 (by decide) ?_
    exact ty_zret hx hb hr hlk rfl hG hS (by decide) dX7_readNumber_10

def uX7_readItem : List Cond := .code yX7_readItem cX7_readItem 5 (some .boolean) :: ([.fieldLink RX7 15 "RiverModel$Text" "row" "[I", .methodLink RX7 42 yJ7_fill_53178, .static yJ7_fill_53178, .initialized RJ7, .methodLink RX7 48 yX7_nextByte, .instanceMethod yX7_nextByte, .selects RX7 yX7_nextByte yX7_nextByte, .initialized RX7, .methodLink RX7 52 yX2_namesOf, .static yX2_namesOf, .initialized RX2, .methodLink RX7 62 yX2_numbersOf, .static yX2_numbersOf, .methodLink RX7 65 yX7_readNumber, .instanceMethod yX7_readNumber, .selects RX7 yX7_readNumber yX7_readNumber, .methodLink RX7 58 yX7_readName, .instanceMethod yX7_readName, .selects RX7 yX7_readName yX7_readName, .code yJ7_fill_53178 cJ7_fill_53178 4 none, .code yX7_nextByte cX7_nextByte 1 (some .int), .fieldLink RX7 22 "RiverModel$Text" "at" "I", .fieldLink RX7 18 "RiverModel$Text" "length" "I", .fieldLink RX7 9 "RiverModel$Text" "bytes" "[I", .code yX2_namesOf cX2_namesOf 1 (some .int), .code yX2_numbersOf cX2_numbersOf 1 (some .int), .code yX7_readNumber cX7_readNumber 4 (some .boolean), .methodLink RX7 71 yX7_isAtFigure, .instanceMethod yX7_isAtFigure, .selects RX7 yX7_isAtFigure yX7_isAtFigure, .code yX7_isAtFigure cX7_isAtFigure 1 (some .boolean), .initialized RX9, .static yX9_isOutside, .code yX9_isOutside cX9_isOutside 3 (some .boolean), .code yX7_readName cX7_readName 3 (some .boolean), .static yX9_isNoStore, .code yX9_isNoStore cX9_isNoStore 1 (some .boolean)] ++ wsX70)
set_option maxRecDepth 20000 in
theorem gu_X7_readItem_J7_fill_53178_42 : GoodIn uX7_readItem (va_wsS RX7 42 yJ7_fill_53178 wsJ7_fill_53178) := goodIn_r _ [2, 3, 4, 20] rfl (by decide +kernel)
set_option maxRecDepth 20000 in
theorem gu_X7_readItem_X7_nextByte_48 : GoodIn uX7_readItem (wsV RX7 48 RX7 yX7_nextByte uX7_nextByte) := goodIn_r _ [5, 6, 7, 8, 21, 22, 23, 24, 38, 39, 40, 41] rfl (by decide +kernel)
set_option maxRecDepth 20000 in
theorem gu_X7_readItem_X2_namesOf_52 : GoodIn uX7_readItem (va_wsS RX7 52 yX2_namesOf uX2_namesOf) := goodIn_r _ [9, 10, 11, 25] rfl (by decide +kernel)
set_option maxRecDepth 20000 in
theorem gu_X7_readItem_X2_numbersOf_62 : GoodIn uX7_readItem (va_wsS RX7 62 yX2_numbersOf uX2_numbersOf) := goodIn_r _ [12, 13, 11, 26] rfl (by decide +kernel)
set_option maxRecDepth 20000 in
theorem gu_X7_readItem_X7_readNumber_65 : GoodIn uX7_readItem (wsV RX7 65 RX7 yX7_readNumber uX7_readNumber) := goodIn_r _ [14, 15, 16, 8, 27, 5, 6, 7, 8, 1, 28, 29, 30, 21, 22, 23, 24, 31, 32, 33, 34, 38, 39, 40, 41] rfl (by decide +kernel)
set_option maxRecDepth 20000 in
theorem gu_X7_readItem_X7_readName_58 : GoodIn uX7_readItem (wsV RX7 58 RX7 yX7_readName uX7_readName) := goodIn_r _ [17, 18, 19, 8, 35, 5, 6, 7, 8, 1, 32, 36, 21, 22, 23, 24, 37, 38, 39, 40, 41] rfl (by decide +kernel)
set_option maxHeartbeats 4000000 in
set_option maxRecDepth 100000 in
theorem s_X7_readItem (l : Launch) (D : va_G) (t : Nat → Nat) (cI cL cC : ClassId) (gC : Int32) (gE : Int32) (G : Nat) (gW : Nat → Int32) (gA : Nat → Int32) (a0 : Nat) (k_a0 : t a0 = 2) : tM l yX7_readItem uX7_readItem 3 65 D (gF cI cL cC gC gE G gW gA) (gF cI cL cC gC gE G gW gA) t cI cL cC [.ref a0] wrT (pI (fun r => r = 0 ∨ r = 1)) := by
  refine tM.ofW (cc := cX7_readItem) (maxL := 5) (ret := (some .boolean)) (by decide) rfl (Nat.le_of_ble_eq_true rfl) ?_
  intro p e s m below meth c hx hb hr hml hown hts hlk H locs hG hK hE hS ls hl
  have hl : lv_has ls 5 [(0, .ref a0)] := hl
  have in7 : ∀ w ∈ wsX70, w ∈ uX7_readItem := fun w h => List.mem_cons_of_mem _ (List.mem_append_right _ h)
  refine lv_aload_n hx hb dX7_readItem_0 rfl (lv_at hl 0 rfl) ?_
  obtain ⟨r_1, r_3, v_5, at_7, h_2, h_4, h_6⟩ := gF_o2 hG k_a0
  refine va_get (D := D) (ci := 6) (v := .ref r_3) (C := RX7) (T := TX7) (N := 4) hx hb hts in7 hown hK (va_one at_7) 0 rfl rfl 1 (by decide) (hts (.fieldLink RX7 15 "RiverModel$Text" "row" "[I") (List.mem_of_getElem? (i := 1) rfl)) (fun _ h9 => h9) rfl dX7_readItem_1 ?_
  refine lv_bipush (v := (-4)) hx hb dX7_readItem_4 (by decide) ?_
  obtain ⟨f_8, at_9⟩ := gF_o11 hG h_4
  refine nw_row (W.runS (As := [.ref r_3, .int (-4)]) (rest := []) ⟨hx, hb, hml, hown, hts⟩ (c_fillI l D cI cL cC r_3 6 f_8 (-4) (by decide)) (va_cwS 2 hts gu_X7_readItem_J7_fill_53178_42 rfl rfl rfl (by decide +kernel) ⟨Nat.le_of_ble_eq_true rfl, Nat.le_of_ble_eq_true rfl⟩) (rP_S at_9 hE) rfl rfl hl.1 rfl (lv_room (Nat.le_of_ble_eq_true rfl)) dX7_readItem_6 ⟨Nat.le_of_ble_eq_true rfl, Nat.le_of_ble_eq_true rfl⟩) (fun H L ee hp at_15 hz_13 o_11 hL_14 => ?_)
  obtain ⟨g_10, rfl, hg_12⟩ := hp
  replace hG : tG D (gF cI cL cC gC gE G gW gA) t H := tG.set hG at_15 (by rw [h_4]; exact ⟨_, rfl⟩) o_11
  replace hS := tF.row hS hz_13 o_11 hL_14 (by rw [h_4]; rfl)
  generalize _ ++ L = locs at hS ⊢
  have at_7 := va_at.keptK at_7 o_11 h_4 k_a0 rfl
  refine lv_aload_n hx hb dX7_readItem_9 rfl (lv_at hl 0 rfl) ?_
  refine ty_calli ((W.runV (As := []) (rest := []) ⟨hx, hb, hml, hown, hts⟩ (s_X7_nextByte l D t cI cL cC gC gE G gW gA a0 k_a0) (cwV 0 hts gu_X7_readItem_X7_nextByte_48 rfl rfl rfl (by decide +kernel) ⟨Nat.le_of_ble_eq_true rfl, Nat.le_of_ble_eq_true rfl⟩) (tP_V hG hE at_7 rfl) rfl rfl hl.1 rfl (lv_room (Nat.le_of_ble_eq_true rfl)) dX7_readItem_10 ⟨Nat.le_of_ble_eq_true rfl, Nat.le_of_ble_eq_true rfl⟩)) hS (fun _ h => h) (fun r_16 H locs hp_17 hG hS o_18 => ?_)
  refine lv_istore_n (lv' := [(1, .int r_16), (0, .ref a0)]) hx hb dX7_readItem_13 rfl hl (by decide) rfl (fun ls hl => ?_)
  refine lv_pc (pc2 := 14) rfl ?_
  refine lv_aload_n hx hb dX7_readItem_14 rfl (lv_at hl 1 rfl) ?_
  obtain ⟨r_19, r_21, v_23, at_25, h_20, h_22, h_24⟩ := gF_o2 hG k_a0
  refine va_get (D := D) (ci := 6) (v := .ref r_21) (C := RX7) (T := TX7) (N := 4) hx hb hts in7 hown hK (va_one at_25) 0 rfl rfl 1 (by decide) (hts (.fieldLink RX7 15 "RiverModel$Text" "row" "[I") (List.mem_of_getElem? (i := 1) rfl)) (fun _ h9 => h9) rfl dX7_readItem_15 ?_
  refine lv_iconst (v := 0) hx hb dX7_readItem_18 (by decide) ?_
  refine lv_iload_n hx hb dX7_readItem_19 rfl (lv_at hl 0 rfl) ?_
  obtain ⟨f_26, at_27⟩ := gF_o11 hG h_22
  have b_28 : vp_in 0 6 := (q_in (by decide) (by decide))
  refine ty_iast (F2 := (gF cI cL cC gC gE G gW gA)) hx hb hK hG hS 0 at_27 (by rw [h_22]; rfl) rfl b_28 (by rw [h_22]; exact ⟨_, rfl⟩) tFF dX7_readItem_20 (fun H locs hG hS at_29 o_30 => ?_)
  have at_25 := va_at.keptK at_25 o_30 h_22 k_a0 rfl
  refine lv_iload_n hx hb dX7_readItem_21 rfl (lv_at hl 0 rfl) ?_
  refine ty_calli ((W.runS (As := [.int r_16]) (rest := []) ⟨hx, hb, hml, hown, hts⟩ (s_X2_namesOf l D t cI cL cC gC gE G gW gA r_16 ) (va_cwS 1 hts gu_X7_readItem_X2_namesOf_52 rfl rfl rfl (by decide +kernel) ⟨Nat.le_of_ble_eq_true rfl, Nat.le_of_ble_eq_true rfl⟩) (tP_S hG hE) rfl rfl hl.1 rfl (lv_room (Nat.le_of_ble_eq_true rfl)) dX7_readItem_22 ⟨Nat.le_of_ble_eq_true rfl, Nat.le_of_ble_eq_true rfl⟩)) hS (fun k h => by simp [wr0] at h) (fun r_31 H locs hp_32 hG hS o_33 => ?_)
  have at_25 := va_at.keptC at_25 o_33 k_a0 rfl
  have hp_32 := hp_32
  refine lv_istore_n (lv' := [(2, .int r_31), (1, .int r_16), (0, .ref a0)]) hx hb dX7_readItem_25 rfl hl (by decide) rfl (fun ls hl => ?_)
  refine lv_pc (pc2 := 26) rfl ?_
  refine lv_iconst (v := 0) hx hb dX7_readItem_26 (by decide) ?_
  refine lv_istore_n (lv' := [(3, .int 0), (2, .int r_31), (1, .int r_16), (0, .ref a0)]) hx hb dX7_readItem_27 rfl hl (by decide) rfl (fun ls hl => ?_)
  refine lv_pc (pc2 := 28) rfl ?_
  refine lp_gen (fun WW hWW => ?_)
  have kx : ∀ (yk : Int32) (H1 : Heap) (locs1 : List Loc) (ls1 : Array Slot), 0 ≤ yk.toInt → yk.toInt ≤ 2 → tG D (gF cI cL cC gC gE G gW gA) t H1 → tF t wrT s.heap H1 locs1 → lv_has ls1 5 [(3, .int yk), (2, .int r_31), (1, .int r_16), (0, .ref a0)] → WW H1 locs1 (F0 m 51 ls1 []) := by
    intro yk H locs ls v0 v1 hG hS hl
    refine (hWW _ _ _).mpr ?_
    refine lv_iload_n hx hb dX7_readItem_51 rfl (lv_at hl 2 rfl) ?_
    refine ty_calli ((W.runS (As := [.int r_16]) (rest := []) ⟨hx, hb, hml, hown, hts⟩ (s_X2_numbersOf l D t cI cL cC gC gE G gW gA r_16 ) (va_cwS 1 hts gu_X7_readItem_X2_numbersOf_62 rfl rfl rfl (by decide +kernel) ⟨Nat.le_of_ble_eq_true rfl, Nat.le_of_ble_eq_true rfl⟩) (tP_S hG hE) rfl rfl hl.1 rfl (lv_room (Nat.le_of_ble_eq_true rfl)) dX7_readItem_52 ⟨Nat.le_of_ble_eq_true rfl, Nat.le_of_ble_eq_true rfl⟩)) hS (fun k h => by simp [wr0] at h) (fun r_34 H locs hp_35 hG hS o_36 => ?_)
    have hp_35 := hp_35
    refine lv_istore_n (lv' := [(3, .int r_34), (2, .int r_31), (1, .int r_16), (0, .ref a0)]) hx hb dX7_readItem_55 rfl hl (by decide) rfl (fun ls hl => ?_)
    refine lv_iconst (v := 0) hx hb dX7_readItem_56 (by decide) ?_
    refine lv_istore (lv' := [(4, .int 0), (3, .int r_34), (2, .int r_31), (1, .int r_16), (0, .ref a0)]) hx hb dX7_readItem_57 hl (by decide) rfl (fun ls hl => ?_)
    refine lv_pc (pc2 := 59) rfl ?_
    refine lp_gen (fun WW hWW => ?_)
    have kx : ∀ (yj : Int32) (H1 : Heap) (locs1 : List Loc) (ls1 : Array Slot), 0 ≤ yj.toInt → yj.toInt ≤ 3 → tG D (gF cI cL cC gC gE G gW gA) t H1 → tF t wrT s.heap H1 locs1 → lv_has ls1 5 [(4, .int yj), (3, .int r_34), (2, .int r_31), (1, .int r_16), (0, .ref a0)] → WW H1 locs1 (F0 m 84 ls1 []) := by
      intro yj H locs ls v0 v1 hG hS hl
      refine (hWW _ _ _).mpr ?_
      refine lv_iload_n hx hb dX7_readItem_84 rfl (lv_at hl 2 rfl) ?_
      refine lv_pc (pc2 := 85) rfl ?_
      refine lv_if_le (tgt := 101) hx hb dX7_readItem_85 (by decide) (fun c_37 => ?_) (fun c_37 => ?_)
      · skip
        have c_37 : r_31.toInt ≤ 0 := q_le c_37
        refine lv_iconst (v := 0) hx hb dX7_readItem_101 (by decide) ?_
        exact ty_zret hx hb hr hlk rfl hG hS (by decide) dX7_readItem_102
      · skip
        have c_37 : 0 < r_31.toInt := q_nle c_37
        refine lv_aload_n hx hb dX7_readItem_88 rfl (lv_at hl 4 rfl) ?_
        obtain ⟨r_38, r_40, v_42, at_44, h_39, h_41, h_43⟩ := gF_o2 hG k_a0
        refine ty_calli ((W.runV (As := []) (rest := []) ⟨hx, hb, hml, hown, hts⟩ (s_X7_nextByte l D t cI cL cC gC gE G gW gA a0 k_a0) (cwV 0 hts gu_X7_readItem_X7_nextByte_48 rfl rfl rfl (by decide +kernel) ⟨Nat.le_of_ble_eq_true rfl, Nat.le_of_ble_eq_true rfl⟩) (tP_V hG hE at_44 rfl) rfl rfl hl.1 rfl (lv_room (Nat.le_of_ble_eq_true rfl)) dX7_readItem_89 ⟨Nat.le_of_ble_eq_true rfl, Nat.le_of_ble_eq_true rfl⟩)) hS (fun _ h => h) (fun r_45 H locs hp_46 hG hS o_47 => ?_)
        refine lv_bipush (v := 59) hx hb dX7_readItem_92 (by decide) ?_
        refine lv_icmp_ne (tgt := 101) hx hb dX7_readItem_94 (by decide) (fun c_48 => ?_) (fun c_48 => ?_)
        · skip
          have c_48 : r_45.toInt ≠ 59 := q_ne c_48
          refine lv_iconst (v := 0) hx hb dX7_readItem_101 (by decide) ?_
          refine lv_pc (pc2 := 102) rfl ?_
          exact ty_zret hx hb hr hlk rfl hG hS (by decide) dX7_readItem_102
        · skip
          have c_48 : r_45.toInt = 59 := q_eq c_48
          refine lv_iconst (v := 1) hx hb dX7_readItem_97 (by decide) ?_
          refine lv_goto (tgt := 102) hx hb dX7_readItem_98 (by decide) ?_
          exact ty_zret hx hb hr hlk rfl hG hS (by decide) dX7_readItem_102
    have loop : ∀ (k : Nat) (yj : Int32) (H1 : Heap) (locs1 : List Loc) (ls1 : Array Slot), 3 - yj.toInt ≤ (k : Int) → 0 ≤ yj.toInt → yj.toInt ≤ 3 → tG D (gF cI cL cC gC gE G gW gA) t H1 → tF t wrT s.heap H1 locs1 → lv_has ls1 5 [(4, .int yj), (3, .int r_34), (2, .int r_31), (1, .int r_16), (0, .ref a0)] → WW H1 locs1 (F0 m 59 ls1 []) := by
      intro k
      induction k with
      | zero =>
        intro yj H locs ls hk v0 v1 hG hS hl
        refine (hWW _ _ _).mpr ?_
        refine lv_iload hx hb dX7_readItem_59 (lv_at hl 0 rfl) ?_
        refine lv_iload_n hx hb dX7_readItem_61 rfl (lv_at hl 1 rfl) ?_
        refine lv_icmp_ge (tgt := 84) hx hb dX7_readItem_62 (by decide) (fun c_49 => ?_) (fun c_49 => ?_)
        · skip
          have c_49 : r_34.toInt ≤ yj.toInt := q_le c_49
          exact (hWW _ _ _).mp (kx yj H locs ls (by omega) (by omega) hG hS (lv_sub hl [0, 1, 2, 3, 4] rfl))
        · skip
          have c_49 : yj.toInt < r_34.toInt := q_nle c_49
          refine lv_aload_n hx hb dX7_readItem_65 rfl (lv_at hl 4 rfl) ?_
          refine lv_pc (pc2 := 66) rfl ?_
          refine lv_iconst (v := 3) hx hb dX7_readItem_66 (by decide) ?_
          refine lv_iload hx hb dX7_readItem_67 (lv_at hl 0 rfl) ?_
          refine lv_iadd hx hb dX7_readItem_69 ?_
          refine lv_topi (fun x_50 e_51 => ?_)
          have i_x_50 : x_50.toInt = 3 + yj.toInt := by rw [e_51]; exact (q_add (by rw [show (3 : Int32).toInt = 3 by decide]; omega) (by rw [show (3 : Int32).toInt = 3 by decide]; omega)).trans (by rw [show (3 : Int32).toInt = 3 by decide])
          obtain ⟨r_52, r_54, v_56, at_58, h_53, h_55, h_57⟩ := gF_o2 hG k_a0
          refine ty_calli ((W.runV (As := [.int x_50]) (rest := []) ⟨hx, hb, hml, hown, hts⟩ (s_X7_readNumber l D t cI cL cC gC gE G gW gA a0 x_50 (by omega) (by omega) k_a0) (cwV 1 hts gu_X7_readItem_X7_readNumber_65 rfl rfl rfl (by decide +kernel) ⟨Nat.le_of_ble_eq_true rfl, Nat.le_of_ble_eq_true rfl⟩) (tP_V hG hE at_58 rfl) rfl rfl hl.1 rfl (lv_room (Nat.le_of_ble_eq_true rfl)) dX7_readItem_70 ⟨Nat.le_of_ble_eq_true rfl, Nat.le_of_ble_eq_true rfl⟩)) hS (fun _ h => h) (fun r_59 H locs hp_60 hG hS o_61 => ?_)
          rcases hp_60 with rfl | rfl
          · skip
            refine lv_if_ne (tgt := 78) hx hb dX7_readItem_73 (by decide) (fun q => absurd rfl q) (fun _ => ?_)
            refine lv_iconst (v := 0) hx hb dX7_readItem_76 (by decide) ?_
            exact ty_zret hx hb hr hlk rfl hG hS (by decide) dX7_readItem_77
          · skip
            refine lv_if_ne (tgt := 78) hx hb dX7_readItem_73 (by decide) (fun _ => ?_) (fun q => absurd q (by decide))
            refine lv_pc (pc2 := 78) rfl ?_
            obtain ⟨x_62, e_63⟩ : ∃ y : Int32, y = yj + Int32.ofInt 1 := ⟨_, rfl⟩
            have i_x_62 : x_62.toInt = yj.toInt + 1 := by rw [e_63, show Int32.ofInt 1 = 1 by decide]; exact (q_add (by rw [show (1 : Int32).toInt = 1 by decide]; omega) (by rw [show (1 : Int32).toInt = 1 by decide]; omega)).trans (by rw [show (1 : Int32).toInt = 1 by decide])
            refine lv_iinc (v := x_62) (lv' := [(4, .int x_62), (3, .int r_34), (2, .int r_31), (1, .int r_16), (0, .ref a0)]) hx hb dX7_readItem_78 hl (k := 0) rfl e_63.symm (by decide) rfl (fun ls hl => ?_)
            refine lv_goto (tgt := 59) hx hb dX7_readItem_81 (by decide) ?_
            exfalso; omega
      | succ k ih =>
        intro yj H locs ls hk v0 v1 hG hS hl
        refine (hWW _ _ _).mpr ?_
        refine lv_iload hx hb dX7_readItem_59 (lv_at hl 0 rfl) ?_
        refine lv_iload_n hx hb dX7_readItem_61 rfl (lv_at hl 1 rfl) ?_
        refine lv_icmp_ge (tgt := 84) hx hb dX7_readItem_62 (by decide) (fun c_64 => ?_) (fun c_64 => ?_)
        · skip
          have c_64 : r_34.toInt ≤ yj.toInt := q_le c_64
          exact (hWW _ _ _).mp (kx yj H locs ls (by omega) (by omega) hG hS (lv_sub hl [0, 1, 2, 3, 4] rfl))
        · skip
          have c_64 : yj.toInt < r_34.toInt := q_nle c_64
          refine lv_aload_n hx hb dX7_readItem_65 rfl (lv_at hl 4 rfl) ?_
          refine lv_iconst (v := 3) hx hb dX7_readItem_66 (by decide) ?_
          refine lv_iload hx hb dX7_readItem_67 (lv_at hl 0 rfl) ?_
          refine lv_pc (pc2 := 69) rfl ?_
          refine lv_iadd hx hb dX7_readItem_69 ?_
          refine lv_topi (fun x_65 e_66 => ?_)
          have i_x_65 : x_65.toInt = 3 + yj.toInt := by rw [e_66]; exact (q_add (by rw [show (3 : Int32).toInt = 3 by decide]; omega) (by rw [show (3 : Int32).toInt = 3 by decide]; omega)).trans (by rw [show (3 : Int32).toInt = 3 by decide])
          obtain ⟨r_67, r_69, v_71, at_73, h_68, h_70, h_72⟩ := gF_o2 hG k_a0
          refine ty_calli ((W.runV (As := [.int x_65]) (rest := []) ⟨hx, hb, hml, hown, hts⟩ (s_X7_readNumber l D t cI cL cC gC gE G gW gA a0 x_65 (by omega) (by omega) k_a0) (cwV 1 hts gu_X7_readItem_X7_readNumber_65 rfl rfl rfl (by decide +kernel) ⟨Nat.le_of_ble_eq_true rfl, Nat.le_of_ble_eq_true rfl⟩) (tP_V hG hE at_73 rfl) rfl rfl hl.1 rfl (lv_room (Nat.le_of_ble_eq_true rfl)) dX7_readItem_70 ⟨Nat.le_of_ble_eq_true rfl, Nat.le_of_ble_eq_true rfl⟩)) hS (fun _ h => h) (fun r_74 H locs hp_75 hG hS o_76 => ?_)
          rcases hp_75 with rfl | rfl
          · skip
            refine lv_if_ne (tgt := 78) hx hb dX7_readItem_73 (by decide) (fun q => absurd rfl q) (fun _ => ?_)
            refine lv_iconst (v := 0) hx hb dX7_readItem_76 (by decide) ?_
            exact ty_zret hx hb hr hlk rfl hG hS (by decide) dX7_readItem_77
          · skip
            refine lv_if_ne (tgt := 78) hx hb dX7_readItem_73 (by decide) (fun _ => ?_) (fun q => absurd q (by decide))
            obtain ⟨x_77, e_78⟩ : ∃ y : Int32, y = yj + Int32.ofInt 1 := ⟨_, rfl⟩
            have i_x_77 : x_77.toInt = yj.toInt + 1 := by rw [e_78, show Int32.ofInt 1 = 1 by decide]; exact (q_add (by rw [show (1 : Int32).toInt = 1 by decide]; omega) (by rw [show (1 : Int32).toInt = 1 by decide]; omega)).trans (by rw [show (1 : Int32).toInt = 1 by decide])
            refine lv_iinc (v := x_77) (lv' := [(4, .int x_77), (3, .int r_34), (2, .int r_31), (1, .int r_16), (0, .ref a0)]) hx hb dX7_readItem_78 hl (k := 0) rfl e_78.symm (by decide) rfl (fun ls hl => ?_)
            refine lv_goto (tgt := 59) hx hb dX7_readItem_81 (by decide) ?_
            exact (hWW _ _ _).mp (ih x_77 H locs ls (by omega) (by omega) (by omega) hG hS (lv_sub hl [0, 1, 2, 3, 4] rfl))
    have hz_yj : (0 : Int32).toInt = 0 := by decide
    exact loop (3 - 0 : Int).toNat 0 H locs ls (by omega) (by omega) (by omega) hG hS (lv_sub hl [0, 1, 2, 3, 4] rfl)
  have loop : ∀ (k : Nat) (yk : Int32) (H1 : Heap) (locs1 : List Loc) (ls1 : Array Slot), 2 - yk.toInt ≤ (k : Int) → 0 ≤ yk.toInt → yk.toInt ≤ 2 → tG D (gF cI cL cC gC gE G gW gA) t H1 → tF t wrT s.heap H1 locs1 → lv_has ls1 5 [(3, .int yk), (2, .int r_31), (1, .int r_16), (0, .ref a0)] → WW H1 locs1 (F0 m 28 ls1 []) := by
    intro k
    induction k with
    | zero =>
      intro yk H locs ls hk v0 v1 hG hS hl
      refine (hWW _ _ _).mpr ?_
      refine lv_pc (pc2 := 28) rfl ?_
      refine lv_iload_n hx hb dX7_readItem_28 rfl (lv_at hl 0 rfl) ?_
      refine lv_iload_n hx hb dX7_readItem_29 rfl (lv_at hl 1 rfl) ?_
      refine lv_icmp_ge (tgt := 51) hx hb dX7_readItem_30 (by decide) (fun c_79 => ?_) (fun c_79 => ?_)
      · skip
        have c_79 : r_31.toInt ≤ yk.toInt := q_le c_79
        exact (hWW _ _ _).mp (kx yk H locs ls (by omega) (by omega) hG hS (lv_sub hl [0, 1, 2, 3] rfl))
      · skip
        have c_79 : yk.toInt < r_31.toInt := q_nle c_79
        refine lv_aload_n hx hb dX7_readItem_33 rfl (lv_at hl 3 rfl) ?_
        refine lv_iconst (v := 1) hx hb dX7_readItem_34 (by decide) ?_
        refine lv_iload_n hx hb dX7_readItem_35 rfl (lv_at hl 0 rfl) ?_
        refine lv_iadd hx hb dX7_readItem_36 ?_
        refine lv_topi (fun x_80 e_81 => ?_)
        have i_x_80 : x_80.toInt = 1 + yk.toInt := by rw [e_81]; exact (q_add (by rw [show (1 : Int32).toInt = 1 by decide]; omega) (by rw [show (1 : Int32).toInt = 1 by decide]; omega)).trans (by rw [show (1 : Int32).toInt = 1 by decide])
        obtain ⟨r_82, r_84, v_86, at_88, h_83, h_85, h_87⟩ := gF_o2 hG k_a0
        refine ty_calli ((W.runV (As := [.int x_80]) (rest := []) ⟨hx, hb, hml, hown, hts⟩ (s_X7_readName l D t cI cL cC gC gE G gW gA a0 x_80 (by omega) (by omega) k_a0) (cwV 1 hts gu_X7_readItem_X7_readName_58 rfl rfl rfl (by decide +kernel) ⟨Nat.le_of_ble_eq_true rfl, Nat.le_of_ble_eq_true rfl⟩) (tP_V hG hE at_88 rfl) rfl rfl hl.1 rfl (lv_room (Nat.le_of_ble_eq_true rfl)) dX7_readItem_37 ⟨Nat.le_of_ble_eq_true rfl, Nat.le_of_ble_eq_true rfl⟩)) hS (fun _ h => h) (fun r_89 H locs hp_90 hG hS o_91 => ?_)
        rcases hp_90 with rfl | rfl
        · skip
          refine lv_pc (pc2 := 40) rfl ?_
          refine lv_if_ne (tgt := 45) hx hb dX7_readItem_40 (by decide) (fun q => absurd rfl q) (fun _ => ?_)
          refine lv_iconst (v := 0) hx hb dX7_readItem_43 (by decide) ?_
          exact ty_zret hx hb hr hlk rfl hG hS (by decide) dX7_readItem_44
        · skip
          refine lv_if_ne (tgt := 45) hx hb dX7_readItem_40 (by decide) (fun _ => ?_) (fun q => absurd q (by decide))
          obtain ⟨x_92, e_93⟩ : ∃ y : Int32, y = yk + Int32.ofInt 1 := ⟨_, rfl⟩
          have i_x_92 : x_92.toInt = yk.toInt + 1 := by rw [e_93, show Int32.ofInt 1 = 1 by decide]; exact (q_add (by rw [show (1 : Int32).toInt = 1 by decide]; omega) (by rw [show (1 : Int32).toInt = 1 by decide]; omega)).trans (by rw [show (1 : Int32).toInt = 1 by decide])
          refine lv_iinc (v := x_92) (lv' := [(3, .int x_92), (2, .int r_31), (1, .int r_16), (0, .ref a0)]) hx hb dX7_readItem_45 hl (k := 0) rfl e_93.symm (by decide) rfl (fun ls hl => ?_)
          refine lv_goto (tgt := 28) hx hb dX7_readItem_48 (by decide) ?_
          exfalso; omega
    | succ k ih =>
      intro yk H locs ls hk v0 v1 hG hS hl
      refine (hWW _ _ _).mpr ?_
      refine lv_iload_n hx hb dX7_readItem_28 rfl (lv_at hl 0 rfl) ?_
      refine lv_iload_n hx hb dX7_readItem_29 rfl (lv_at hl 1 rfl) ?_
      refine lv_pc (pc2 := 30) rfl ?_
      refine lv_icmp_ge (tgt := 51) hx hb dX7_readItem_30 (by decide) (fun c_94 => ?_) (fun c_94 => ?_)
      · skip
        have c_94 : r_31.toInt ≤ yk.toInt := q_le c_94
        exact (hWW _ _ _).mp (kx yk H locs ls (by omega) (by omega) hG hS (lv_sub hl [0, 1, 2, 3] rfl))
      · skip
        have c_94 : yk.toInt < r_31.toInt := q_nle c_94
        refine lv_aload_n hx hb dX7_readItem_33 rfl (lv_at hl 3 rfl) ?_
        refine lv_iconst (v := 1) hx hb dX7_readItem_34 (by decide) ?_
        refine lv_iload_n hx hb dX7_readItem_35 rfl (lv_at hl 0 rfl) ?_
        refine lv_iadd hx hb dX7_readItem_36 ?_
        refine lv_topi (fun x_95 e_96 => ?_)
        have i_x_95 : x_95.toInt = 1 + yk.toInt := by rw [e_96]; exact (q_add (by rw [show (1 : Int32).toInt = 1 by decide]; omega) (by rw [show (1 : Int32).toInt = 1 by decide]; omega)).trans (by rw [show (1 : Int32).toInt = 1 by decide])
        obtain ⟨r_97, r_99, v_101, at_103, h_98, h_100, h_102⟩ := gF_o2 hG k_a0
        refine ty_calli ((W.runV (As := [.int x_95]) (rest := []) ⟨hx, hb, hml, hown, hts⟩ (s_X7_readName l D t cI cL cC gC gE G gW gA a0 x_95 (by omega) (by omega) k_a0) (cwV 1 hts gu_X7_readItem_X7_readName_58 rfl rfl rfl (by decide +kernel) ⟨Nat.le_of_ble_eq_true rfl, Nat.le_of_ble_eq_true rfl⟩) (tP_V hG hE at_103 rfl) rfl rfl hl.1 rfl (lv_room (Nat.le_of_ble_eq_true rfl)) dX7_readItem_37 ⟨Nat.le_of_ble_eq_true rfl, Nat.le_of_ble_eq_true rfl⟩)) hS (fun _ h => h) (fun r_104 H locs hp_105 hG hS o_106 => ?_)
        rcases hp_105 with rfl | rfl
        · skip
          refine lv_if_ne (tgt := 45) hx hb dX7_readItem_40 (by decide) (fun q => absurd rfl q) (fun _ => ?_)
          refine lv_iconst (v := 0) hx hb dX7_readItem_43 (by decide) ?_
          refine lv_pc (pc2 := 44) rfl ?_
          exact ty_zret hx hb hr hlk rfl hG hS (by decide) dX7_readItem_44
        · skip
          refine lv_if_ne (tgt := 45) hx hb dX7_readItem_40 (by decide) (fun _ => ?_) (fun q => absurd q (by decide))
          obtain ⟨x_107, e_108⟩ : ∃ y : Int32, y = yk + Int32.ofInt 1 := ⟨_, rfl⟩
          have i_x_107 : x_107.toInt = yk.toInt + 1 := by rw [e_108, show Int32.ofInt 1 = 1 by decide]; exact (q_add (by rw [show (1 : Int32).toInt = 1 by decide]; omega) (by rw [show (1 : Int32).toInt = 1 by decide]; omega)).trans (by rw [show (1 : Int32).toInt = 1 by decide])
          refine lv_iinc (v := x_107) (lv' := [(3, .int x_107), (2, .int r_31), (1, .int r_16), (0, .ref a0)]) hx hb dX7_readItem_45 hl (k := 0) rfl e_108.symm (by decide) rfl (fun ls hl => ?_)
          refine lv_goto (tgt := 28) hx hb dX7_readItem_48 (by decide) ?_
          exact (hWW _ _ _).mp (ih x_107 H locs ls (by omega) (by omega) (by omega) hG hS (lv_sub hl [0, 1, 2, 3] rfl))
  have hz_yk : (0 : Int32).toInt = 0 := by decide
  exact loop (2 - 0 : Int).toNat 0 H locs ls (by omega) (by omega) (by omega) hG hS (lv_sub hl [0, 1, 2, 3] rfl)

def uX7_readAlone : List Cond := .code yX7_readAlone cX7_readAlone 1 (some .boolean) :: ([.fieldLink RX7 22 "RiverModel$Text" "at" "I", .methodLink RX7 30 yX7_readItem, .instanceMethod yX7_readItem, .selects RX7 yX7_readItem yX7_readItem, .initialized RX7, .fieldLink RX7 18 "RiverModel$Text" "length" "I", .code yX7_readItem cX7_readItem 5 (some .boolean), .fieldLink RX7 15 "RiverModel$Text" "row" "[I", .methodLink RX7 42 yJ7_fill_53178, .static yJ7_fill_53178, .initialized RJ7, .methodLink RX7 48 yX7_nextByte, .instanceMethod yX7_nextByte, .selects RX7 yX7_nextByte yX7_nextByte, .methodLink RX7 52 yX2_namesOf, .static yX2_namesOf, .initialized RX2, .methodLink RX7 62 yX2_numbersOf, .static yX2_numbersOf, .methodLink RX7 65 yX7_readNumber, .instanceMethod yX7_readNumber, .selects RX7 yX7_readNumber yX7_readNumber, .methodLink RX7 58 yX7_readName, .instanceMethod yX7_readName, .selects RX7 yX7_readName yX7_readName, .code yJ7_fill_53178 cJ7_fill_53178 4 none, .code yX7_nextByte cX7_nextByte 1 (some .int), .fieldLink RX7 9 "RiverModel$Text" "bytes" "[I", .code yX2_namesOf cX2_namesOf 1 (some .int), .code yX2_numbersOf cX2_numbersOf 1 (some .int), .code yX7_readNumber cX7_readNumber 4 (some .boolean), .methodLink RX7 71 yX7_isAtFigure, .instanceMethod yX7_isAtFigure, .selects RX7 yX7_isAtFigure yX7_isAtFigure, .code yX7_isAtFigure cX7_isAtFigure 1 (some .boolean), .initialized RX9, .static yX9_isOutside, .code yX9_isOutside cX9_isOutside 3 (some .boolean), .code yX7_readName cX7_readName 3 (some .boolean), .static yX9_isNoStore, .code yX9_isNoStore cX9_isNoStore 1 (some .boolean)] ++ wsX70)
set_option maxRecDepth 20000 in
theorem gu_X7_readAlone_X7_readItem_30 : GoodIn uX7_readAlone (wsV RX7 30 RX7 yX7_readItem uX7_readItem) := goodIn_r _ [2, 3, 4, 5, 7, 8, 9, 10, 11, 12, 13, 14, 5, 15, 16, 17, 18, 19, 20, 21, 22, 23, 24, 25, 26, 27, 1, 6, 28, 29, 30, 31, 32, 33, 34, 35, 36, 37, 38, 39, 40, 41, 42, 43, 44, 45] rfl (by decide +kernel)
set_option maxHeartbeats 4000000 in
set_option maxRecDepth 100000 in
theorem s_X7_readAlone (l : Launch) (D : va_G) (t : Nat → Nat) (cI cL cC : ClassId) (gC : Int32) (gE : Int32) (G : Nat) (gW : Nat → Int32) (gA : Nat → Int32) (a0 : Nat) (k_a0 : t a0 = 2) : tM l yX7_readAlone uX7_readAlone 4 89 D (gF cI cL cC gC gE G gW gA) (gF cI cL cC gC gE G gW gA) t cI cL cC [.ref a0] wrT (pI (fun r => r = 0 ∨ r = 1)) := by
  refine tM.ofW (cc := cX7_readAlone) (maxL := 1) (ret := (some .boolean)) (by decide) rfl (Nat.le_of_ble_eq_true rfl) ?_
  intro p e s m below meth c hx hb hr hml hown hts hlk H locs hG hK hE hS ls hl
  have hl : lv_has ls 1 [(0, .ref a0)] := hl
  have in7 : ∀ w ∈ wsX70, w ∈ uX7_readAlone := fun w h => List.mem_cons_of_mem _ (List.mem_append_right _ h)
  refine lv_aload_n hx hb dX7_readAlone_0 rfl (lv_at hl 0 rfl) ?_
  refine lv_iconst (v := 0) hx hb dX7_readAlone_1 (by decide) ?_
  obtain ⟨r_1, r_3, v_5, at_7, h_2, h_4, h_6⟩ := gF_o2 hG k_a0
  refine ty_put (D := D) (ci := 6) (v := .int 0) (ty := .int) (C := RX7) (T := TX7) (N := 4) (F2 := (gF cI cL cC gC gE G gW gA)) hx hb hts in7 tyX7 tyX7_ok nmX7 hown hK hG hS at_7 (by rw [k_a0]; rfl) rfl 3 (by decide) (hts (.fieldLink RX7 22 "RiverModel$Text" "at" "I") (List.mem_of_getElem? (i := 1) rfl)) (fun _ h9 => h9) rfl (by decide +kernel) rfl rfl (Nat.le_of_ble_eq_true rfl) (by rw [k_a0]; exact ⟨r_1, r_3, 0, rfl, h_2, h_4, (by rw [show (0 : Int32).toInt = 0 by decide]; omega)⟩) tFF dX7_readAlone_2 (fun H locs hG hS at_8 o_9 => ?_)
  have at_8 : va_at D vwCl (a0, .inr (6, [.ref r_1, .ref r_3, .int gC, .int 0])) H := at_8
  refine lv_aload_n hx hb dX7_readAlone_5 rfl (lv_at hl 0 rfl) ?_
  refine ty_calli ((W.runV (As := []) (rest := []) ⟨hx, hb, hml, hown, hts⟩ (s_X7_readItem l D t cI cL cC gC gE G gW gA a0 k_a0) (cwV 0 hts gu_X7_readAlone_X7_readItem_30 rfl rfl rfl (by decide +kernel) ⟨Nat.le_of_ble_eq_true rfl, Nat.le_of_ble_eq_true rfl⟩) (tP_V hG hE at_8 rfl) rfl rfl hl.1 rfl (lv_room (Nat.le_of_ble_eq_true rfl)) dX7_readAlone_6 ⟨Nat.le_of_ble_eq_true rfl, Nat.le_of_ble_eq_true rfl⟩)) hS (fun _ h => h) (fun r_10 H locs hp_11 hG hS o_12 => ?_)
  rcases hp_11 with rfl | rfl
  · skip
    refine lv_if_eq (tgt := 27) hx hb dX7_readAlone_9 (by decide) (fun _ => ?_) (fun q => absurd (by decide) q)
    refine lv_iconst (v := 0) hx hb dX7_readAlone_27 (by decide) ?_
    refine lv_pc (pc2 := 28) rfl ?_
    exact ty_zret hx hb hr hlk rfl hG hS (by decide) dX7_readAlone_28
  · skip
    refine lv_if_eq (tgt := 27) hx hb dX7_readAlone_9 (by decide) (fun q => absurd q (by decide)) (fun _ => ?_)
    refine lv_aload_n hx hb dX7_readAlone_12 rfl (lv_at hl 0 rfl) ?_
    obtain ⟨r_13, r_15, v_17, at_19, h_14, h_16, h_18⟩ := gF_o2 hG k_a0
    refine va_get (D := D) (ci := 6) (v := .int v_17) (C := RX7) (T := TX7) (N := 4) hx hb hts in7 hown hK (va_one at_19) 0 rfl rfl 3 (by decide) (hts (.fieldLink RX7 22 "RiverModel$Text" "at" "I") (List.mem_of_getElem? (i := 1) rfl)) (fun _ h9 => h9) rfl dX7_readAlone_13 ?_
    refine lv_aload_n hx hb dX7_readAlone_16 rfl (lv_at hl 0 rfl) ?_
    refine va_get (D := D) (ci := 6) (v := .int gC) (C := RX7) (T := TX7) (N := 4) hx hb hts in7 hown hK (va_one at_19) 0 rfl rfl 2 (by decide) (hts (.fieldLink RX7 18 "RiverModel$Text" "length" "I") (List.mem_of_getElem? (i := 6) rfl)) (fun _ h9 => h9) rfl dX7_readAlone_17 ?_
    refine lv_icmp_ne (tgt := 27) hx hb dX7_readAlone_20 (by decide) (fun c_20 => ?_) (fun c_20 => ?_)
    · skip
      have c_20 : v_17.toInt ≠ gC.toInt := q_ne c_20
      refine lv_iconst (v := 0) hx hb dX7_readAlone_27 (by decide) ?_
      refine lv_pc (pc2 := 28) rfl ?_
      exact ty_zret hx hb hr hlk rfl hG hS (by decide) dX7_readAlone_28
    · skip
      have c_20 : v_17.toInt = gC.toInt := q_eq c_20
      refine lv_iconst (v := 1) hx hb dX7_readAlone_23 (by decide) ?_
      refine lv_goto (tgt := 28) hx hb dX7_readAlone_24 (by decide) ?_
      exact ty_zret hx hb hr hlk rfl hG hS (by decide) dX7_readAlone_28

def uX4_cell : List Cond := .code yX4_cell cX4_cell 3 (some .int) :: ([.fieldLink RX4 9 "RiverModel$Model" "cells" "[I"] ++ wsX40)
set_option maxHeartbeats 4000000 in
set_option maxRecDepth 100000 in
theorem s_X4_cell (l : Launch) (D : va_G) (t : Nat → Nat) (cI cL cC : ClassId) (gC : Int32) (gE : Int32) (G : Nat) (gW : Nat → Int32) (gA : Nat → Int32) (a0 : Nat) (a1 : Int32) (a2 : Int32) (k_a0 : t a0 = 3) : tM l yX4_cell uX4_cell 0 0 D (gF cI cL cC gC gE G gW gA) (gF cI cL cC gC gE G gW gA) t cI cL cC [.ref a0, .int a1, .int a2] wr0 (pI (fun r => True)) := by
  refine tM.ofW (cc := cX4_cell) (maxL := 3) (ret := (some .int)) (by decide) rfl (Nat.le_of_ble_eq_true rfl) ?_
  intro p e s m below meth c hx hb hr hml hown hts hlk H locs hG hK hE hS ls hl
  have hl : lv_has ls 3 [(0, .ref a0), (1, .int a1), (2, .int a2)] := hl
  have in4 : ∀ w ∈ wsX40, w ∈ uX4_cell := fun w h => List.mem_cons_of_mem _ (List.mem_append_right _ h)
  refine lv_iload_n hx hb dX4_cell_0 rfl (lv_at hl 1 rfl) ?_
  refine lv_if_lt (tgt := 20) hx hb dX4_cell_1 (by decide) (fun c_1 => ?_) (fun c_1 => ?_)
  · skip
    have c_1 : a1.toInt < 0 := q_lt c_1
    refine lv_bipush (v := (-4)) hx hb dX4_cell_20 (by decide) ?_
    refine lv_goto (tgt := 36) hx hb dX4_cell_22 (by decide) ?_
    exact ty_iret hx hb hr hlk hG hS True.intro dX4_cell_36
  · skip
    have c_1 : 0 ≤ a1.toInt := q_nlt c_1
    refine lv_iload_n hx hb dX4_cell_4 rfl (lv_at hl 1 rfl) ?_
    refine lv_bipush (v := 40) hx hb dX4_cell_5 (by decide) ?_
    refine lv_pc (pc2 := 7) rfl ?_
    refine lv_icmp_ge (tgt := 20) hx hb dX4_cell_7 (by decide) (fun c_2 => ?_) (fun c_2 => ?_)
    · skip
      have c_2 : 40 ≤ a1.toInt := q_le c_2
      refine lv_bipush (v := (-4)) hx hb dX4_cell_20 (by decide) ?_
      refine lv_goto (tgt := 36) hx hb dX4_cell_22 (by decide) ?_
      exact ty_iret hx hb hr hlk hG hS True.intro dX4_cell_36
    · skip
      have c_2 : a1.toInt < 40 := q_nle c_2
      refine lv_iload_n hx hb dX4_cell_10 rfl (lv_at hl 2 rfl) ?_
      refine lv_if_lt (tgt := 20) hx hb dX4_cell_11 (by decide) (fun c_3 => ?_) (fun c_3 => ?_)
      · skip
        have c_3 : a2.toInt < 0 := q_lt c_3
        refine lv_bipush (v := (-4)) hx hb dX4_cell_20 (by decide) ?_
        refine lv_goto (tgt := 36) hx hb dX4_cell_22 (by decide) ?_
        refine lv_pc (pc2 := 36) rfl ?_
        exact ty_iret hx hb hr hlk hG hS True.intro dX4_cell_36
      · skip
        have c_3 : 0 ≤ a2.toInt := q_nlt c_3
        refine lv_iload_n hx hb dX4_cell_14 rfl (lv_at hl 2 rfl) ?_
        refine lv_bipush (v := 6) hx hb dX4_cell_15 (by decide) ?_
        refine lv_icmp_lt (tgt := 25) hx hb dX4_cell_17 (by decide) (fun c_4 => ?_) (fun c_4 => ?_)
        · skip
          have c_4 : a2.toInt < 6 := q_lt c_4
          refine lv_aload_n hx hb dX4_cell_25 rfl (lv_at hl 0 rfl) ?_
          obtain ⟨r_5, r_7, r_9, v_11, v_12, v_13, at_15, h_6, h_8, h_10, h_14⟩ := gF_o3 hG k_a0
          refine va_get (D := D) (ci := 3) (v := .ref r_5) (C := RX4) (T := TX4) (N := 6) hx hb hts in4 hown hK (va_one at_15) 0 rfl rfl 0 (by decide) (hts (.fieldLink RX4 9 "RiverModel$Model" "cells" "[I") (List.mem_of_getElem? (i := 1) rfl)) (fun _ h9 => h9) rfl dX4_cell_26 ?_
          refine lv_iload_n hx hb dX4_cell_29 rfl (lv_at hl 1 rfl) ?_
          refine lv_bipush (v := 6) hx hb dX4_cell_30 (by decide) ?_
          refine lv_pc (pc2 := 32) rfl ?_
          refine lv_imul hx hb dX4_cell_32 ?_
          refine lv_topi (fun x_16 e_17 => ?_)
          have i_x_16 : x_16.toInt = a1.toInt * 6 := by rw [e_17]; exact (q_mul (by rw [show (6 : Int32).toInt = 6 by decide]; omega) (by rw [show (6 : Int32).toInt = 6 by decide]; omega)).trans (by rw [show (6 : Int32).toInt = 6 by decide])
          refine lv_iload_n hx hb dX4_cell_33 rfl (lv_at hl 2 rfl) ?_
          refine lv_iadd hx hb dX4_cell_34 ?_
          refine lv_topi (fun x_18 e_19 => ?_)
          have i_x_18 : x_18.toInt = x_16.toInt + a2.toInt := by rw [e_19]; exact (q_add (by omega) (by omega)).trans (by rfl)
          obtain ⟨f_20, at_21⟩ := gF_o12 hG h_6
          have b_22 : vp_in x_18 240 := (q_in (by omega) (by omega))
          refine va_iald hx hb hK (va_one at_21) 0 0 rfl rfl b_22 dX4_cell_35 ?_
          refine lv_topi (fun x_23 e_24 => ?_)
          exact ty_iret hx hb hr hlk hG hS True.intro dX4_cell_36
        · skip
          have c_4 : 6 ≤ a2.toInt := q_nlt c_4
          refine lv_bipush (v := (-4)) hx hb dX4_cell_20 (by decide) ?_
          refine lv_goto (tgt := 36) hx hb dX4_cell_22 (by decide) ?_
          exact ty_iret hx hb hr hlk hG hS True.intro dX4_cell_36

def uX4_putCell : List Cond := .code yX4_putCell cX4_putCell 4 none :: ([.initialized RX9, .static yX9_isNoItem, .static yX9_isOutside, .fieldLink RX4 9 "RiverModel$Model" "cells" "[I", .code yX9_isNoItem cX9_isNoItem 1 (some .boolean), .code yX9_isOutside cX9_isOutside 3 (some .boolean)] ++ wsX40)
set_option maxRecDepth 20000 in
theorem gu_X4_putCell_X9_isNoItem_n : GoodIn uX4_putCell (uX9_isNoItem) := goodIn_r _ [5] rfl (by decide +kernel)
set_option maxRecDepth 20000 in
theorem gu_X4_putCell_X9_isOutside_n : GoodIn uX4_putCell (uX9_isOutside) := goodIn_r _ [6] rfl (by decide +kernel)
set_option maxHeartbeats 4000000 in
set_option maxRecDepth 100000 in
theorem s_X4_putCell (l : Launch) (D : va_G) (t : Nat → Nat) (cI cL cC : ClassId) (gC : Int32) (gE : Int32) (G : Nat) (gW : Nat → Int32) (gA : Nat → Int32) (a0 : Nat) (a1 : Int32) (a2 : Int32) (a3 : Int32) (k_a0 : t a0 = 3) : tM l yX4_putCell uX4_putCell 1 22 D (gF cI cL cC gC gE G gW gA) (gF cI cL cC gC gE G gW gA) t cI cL cC [.ref a0, .int a1, .int a2, .int a3] wrMo (pV (True)) := by
  refine tM.ofW (cc := cX4_putCell) (maxL := 4) (ret := none) (by decide) rfl (Nat.le_of_ble_eq_true rfl) ?_
  intro p e s m below meth c hx hb hr hml hown hts hlk H locs hG hK hE hS ls hl
  have hl : lv_has ls 4 [(0, .ref a0), (1, .int a1), (2, .int a2), (3, .int a3)] := hl
  have in4 : ∀ w ∈ wsX40, w ∈ uX4_putCell := fun w h => List.mem_cons_of_mem _ (List.mem_append_right _ h)
  refine lv_iload_n hx hb dX4_putCell_0 rfl (lv_at hl 1 rfl) ?_
  refine ty_calli (tRun (va_runSN (As := [.int a1]) (rest := []) ⟨hx, hb, hml, hown, hts⟩ (s_X9_isNoItem l D t cI cL cC gC gE G gW gA a1 ) ⟨(va_cnB 1 hts gu_X4_putCell_X9_isNoItem_n rfl rfl rfl (hE.2.1 _ (List.mem_of_getElem? (i := 8) rfl)) (hts (.initialized RX9) (List.mem_of_getElem? (i := 1) rfl)) (by decide +kernel) ⟨Nat.le_of_ble_eq_true rfl, Nat.le_of_ble_eq_true rfl⟩), (hts (.static yX9_isNoItem) (List.mem_of_getElem? (i := 2) rfl)), trivial⟩ (tP_S hG hE) rfl rfl hl.1 rfl (lv_room (Nat.le_of_ble_eq_true rfl)) dX4_putCell_1 ⟨Nat.le_of_ble_eq_true rfl, Nat.le_of_ble_eq_true rfl⟩)) hS (fun k h => by simp [wr0] at h) (fun r_1 H locs hp_2 hG hS o_3 => ?_)
  rcases hp_2 with ⟨rfl, hc_13⟩ | ⟨rfl, hc_14, hc_15⟩
  · skip
    refine lv_if_ne (tgt := 28) hx hb dX4_putCell_4 (by decide) (fun _ => ?_) (fun q => absurd q (by decide))
    exact ty_vret hx hb hr hlk hG hS True.intro dX4_putCell_28
  · skip
    refine lv_if_ne (tgt := 28) hx hb dX4_putCell_4 (by decide) (fun q => absurd rfl q) (fun _ => ?_)
    refine lv_iload_n hx hb dX4_putCell_7 rfl (lv_at hl 2 rfl) ?_
    refine lv_iconst (v := 0) hx hb dX4_putCell_8 (by decide) ?_
    refine lv_pc (pc2 := 9) rfl ?_
    refine lv_iconst (v := 5) hx hb dX4_putCell_9 (by decide) ?_
    refine ty_calli (tRun (va_runSN (As := [.int a2, .int 0, .int 5]) (rest := []) ⟨hx, hb, hml, hown, hts⟩ (s_X9_isOutside l D t cI cL cC gC gE G gW gA a2 0 5 0 5 (by decide) (by decide) ) ⟨(va_cnB 3 hts gu_X4_putCell_X9_isOutside_n rfl rfl rfl (hE.2.1 _ (List.mem_of_getElem? (i := 9) rfl)) (hts (.initialized RX9) (List.mem_of_getElem? (i := 1) rfl)) (by decide +kernel) ⟨Nat.le_of_ble_eq_true rfl, Nat.le_of_ble_eq_true rfl⟩), (hts (.static yX9_isOutside) (List.mem_of_getElem? (i := 3) rfl)), trivial⟩ (tP_S hG hE) rfl rfl hl.1 rfl (lv_room (Nat.le_of_ble_eq_true rfl)) dX4_putCell_10 ⟨Nat.le_of_ble_eq_true rfl, Nat.le_of_ble_eq_true rfl⟩)) hS (fun k h => by simp [wr0] at h) (fun r_4 H locs hp_5 hG hS o_6 => ?_)
    rcases hp_5 with ⟨rfl, hc_16⟩ | ⟨rfl, hc_17, hc_18⟩
    · skip
      refine lv_if_ne (tgt := 28) hx hb dX4_putCell_13 (by decide) (fun _ => ?_) (fun q => absurd q (by decide))
      exact ty_vret hx hb hr hlk hG hS True.intro dX4_putCell_28
    · skip
      refine lv_if_ne (tgt := 28) hx hb dX4_putCell_13 (by decide) (fun q => absurd rfl q) (fun _ => ?_)
      refine lv_aload_n hx hb dX4_putCell_16 rfl (lv_at hl 0 rfl) ?_
      obtain ⟨r_7, r_9, r_11, v_13, v_14, v_15, at_17, h_8, h_10, h_12, h_16⟩ := gF_o3 hG k_a0
      refine va_get (D := D) (ci := 3) (v := .ref r_7) (C := RX4) (T := TX4) (N := 6) hx hb hts in4 hown hK (va_one at_17) 0 rfl rfl 0 (by decide) (hts (.fieldLink RX4 9 "RiverModel$Model" "cells" "[I") (List.mem_of_getElem? (i := 4) rfl)) (fun _ h9 => h9) rfl dX4_putCell_17 ?_
      refine lv_iload_n hx hb dX4_putCell_20 rfl (lv_at hl 1 rfl) ?_
      refine lv_pc (pc2 := 21) rfl ?_
      refine lv_bipush (v := 6) hx hb dX4_putCell_21 (by decide) ?_
      refine lv_imul hx hb dX4_putCell_23 ?_
      refine lv_topi (fun x_18 e_19 => ?_)
      have i_x_18 : x_18.toInt = a1.toInt * 6 := by rw [e_19]; exact (q_mul (by rw [show (6 : Int32).toInt = 6 by decide]; omega) (by rw [show (6 : Int32).toInt = 6 by decide]; omega)).trans (by rw [show (6 : Int32).toInt = 6 by decide])
      refine lv_iload_n hx hb dX4_putCell_24 rfl (lv_at hl 2 rfl) ?_
      refine lv_iadd hx hb dX4_putCell_25 ?_
      refine lv_topi (fun x_20 e_21 => ?_)
      have i_x_20 : x_20.toInt = x_18.toInt + a2.toInt := by rw [e_21]; exact (q_add (by omega) (by omega)).trans (by rfl)
      refine lv_iload_n hx hb dX4_putCell_26 rfl (lv_at hl 3 rfl) ?_
      obtain ⟨f_22, at_23⟩ := gF_o12 hG h_8
      have b_24 : vp_in x_20 240 := (q_in (by omega) (by omega))
      refine ty_iast (F2 := (gF cI cL cC gC gE G gW gA)) hx hb hK hG hS 0 at_23 (by rw [h_8]; rfl) rfl b_24 (by rw [h_8]; exact ⟨_, rfl⟩) tFF dX4_putCell_27 (fun H locs hG hS at_25 o_26 => ?_)
      have at_17 := va_at.keptK at_17 o_26 h_8 k_a0 rfl
      exact ty_vret hx hb hr hlk hG hS True.intro dX4_putCell_28

def uX4_put : List Cond := .code yX4_put cX4_put 4 none :: ([.methodLink RX4 51 yX4_putCell, .instanceMethod yX4_putCell, .selects RX4 yX4_putCell yX4_putCell, .initialized RX4, .code yX4_putCell cX4_putCell 4 none, .initialized RX9, .static yX9_isNoItem, .static yX9_isOutside, .fieldLink RX4 9 "RiverModel$Model" "cells" "[I", .code yX9_isNoItem cX9_isNoItem 1 (some .boolean), .code yX9_isOutside cX9_isOutside 3 (some .boolean)] ++ wsX40)
set_option maxRecDepth 20000 in
theorem gu_X4_put_X4_putCell_51 : GoodIn uX4_put (wsV RX4 51 RX4 yX4_putCell uX4_putCell) := goodIn_r _ [1, 2, 3, 4, 5, 6, 7, 8, 9, 10, 11, 12, 13, 14, 15, 16, 17] rfl (by decide +kernel)
set_option maxHeartbeats 4000000 in
set_option maxRecDepth 100000 in
theorem s_X4_put (l : Launch) (D : va_G) (t : Nat → Nat) (cI cL cC : ClassId) (gC : Int32) (gE : Int32) (G : Nat) (gW : Nat → Int32) (gA : Nat → Int32) (a0 : Nat) (a1 : Int32) (a2 : Nat) (k_a0 : t a0 = 3) (k_a2 : t a2 = 11) : tM l yX4_put uX4_put 2 45 D (gF cI cL cC gC gE G gW gA) (gF cI cL cC gC gE G gW gA) t cI cL cC [.ref a0, .int a1, .ref a2] wrMo (pV (True)) := by
  refine tM.ofW (cc := cX4_put) (maxL := 4) (ret := none) (by decide) rfl (Nat.le_of_ble_eq_true rfl) ?_
  intro p e s m below meth c hx hb hr hml hown hts hlk H locs hG hK hE hS ls hl
  have hl : lv_has ls 4 [(0, .ref a0), (1, .int a1), (2, .ref a2)] := hl
  skip
  refine lv_iconst (v := 0) hx hb dX4_put_0 (by decide) ?_
  refine lv_istore_n (lv' := [(3, .int 0), (0, .ref a0), (1, .int a1), (2, .ref a2)]) hx hb dX4_put_1 rfl hl (by decide) rfl (fun ls hl => ?_)
  refine lv_pc (pc2 := 2) rfl ?_
  refine lp_gen (fun WW hWW => ?_)
  have kx : ∀ (yk : Int32) (H1 : Heap) (locs1 : List Loc) (ls1 : Array Slot), 0 ≤ yk.toInt → yk.toInt ≤ 6 → tG D (gF cI cL cC gC gE G gW gA) t H1 → tF t wrMo s.heap H1 locs1 → lv_has ls1 4 [(3, .int yk), (0, .ref a0), (1, .int a1), (2, .ref a2)] → WW H1 locs1 (F0 m 23 ls1 []) := by
    intro yk H locs ls v0 v1 hG hS hl
    refine (hWW _ _ _).mpr ?_
    exact ty_vret hx hb hr hlk hG hS True.intro dX4_put_23
  have loop : ∀ (k : Nat) (yk : Int32) (H1 : Heap) (locs1 : List Loc) (ls1 : Array Slot), 6 - yk.toInt ≤ (k : Int) → 0 ≤ yk.toInt → yk.toInt ≤ 6 → tG D (gF cI cL cC gC gE G gW gA) t H1 → tF t wrMo s.heap H1 locs1 → lv_has ls1 4 [(3, .int yk), (0, .ref a0), (1, .int a1), (2, .ref a2)] → WW H1 locs1 (F0 m 2 ls1 []) := by
    intro k
    induction k with
    | zero =>
      intro yk H locs ls hk v0 v1 hG hS hl
      refine (hWW _ _ _).mpr ?_
      refine lv_iload_n hx hb dX4_put_2 rfl (lv_at hl 0 rfl) ?_
      refine lv_bipush (v := 6) hx hb dX4_put_3 (by decide) ?_
      refine lv_icmp_ge (tgt := 23) hx hb dX4_put_5 (by decide) (fun c_1 => ?_) (fun c_1 => ?_)
      · skip
        have c_1 : 6 ≤ yk.toInt := q_le c_1
        exact (hWW _ _ _).mp (kx yk H locs ls (by omega) (by omega) hG hS (lv_sub hl [0, 1, 2, 3] rfl))
      · skip
        have c_1 : yk.toInt < 6 := q_nle c_1
        refine lv_aload_n hx hb dX4_put_8 rfl (lv_at hl 1 rfl) ?_
        refine lv_pc (pc2 := 9) rfl ?_
        refine lv_iload_n hx hb dX4_put_9 rfl (lv_at hl 2 rfl) ?_
        refine lv_iload_n hx hb dX4_put_10 rfl (lv_at hl 0 rfl) ?_
        refine lv_aload_n hx hb dX4_put_11 rfl (lv_at hl 3 rfl) ?_
        refine lv_iload_n hx hb dX4_put_12 rfl (lv_at hl 0 rfl) ?_
        obtain ⟨f_2, at_3⟩ := gF_o11 hG k_a2
        have b_4 : vp_in yk 6 := (q_in (by omega) (by omega))
        refine va_iald hx hb hK (va_one at_3) 0 0 rfl rfl b_4 dX4_put_13 ?_
        refine lv_topi (fun x_5 e_6 => ?_)
        obtain ⟨r_7, r_9, r_11, v_13, v_14, v_15, at_17, h_8, h_10, h_12, h_16⟩ := gF_o3 hG k_a0
        refine ty_callv ((W.runV (As := [.int a1, .int yk, .int x_5]) (rest := []) ⟨hx, hb, hml, hown, hts⟩ (s_X4_putCell l D t cI cL cC gC gE G gW gA a0 a1 yk x_5 k_a0) (cwV 3 hts gu_X4_put_X4_putCell_51 rfl rfl rfl (by decide +kernel) ⟨Nat.le_of_ble_eq_true rfl, Nat.le_of_ble_eq_true rfl⟩) (tP_V hG hE at_17 rfl) rfl rfl hl.1 rfl (lv_room (Nat.le_of_ble_eq_true rfl)) dX4_put_14 ⟨Nat.le_of_ble_eq_true rfl, Nat.le_of_ble_eq_true rfl⟩)) hS (fun _ h => h) (fun H locs hp_19 hG hS o_20 => ?_)
        have at_3 := va_at.keptC at_3 o_20 k_a2 rfl
        obtain ⟨x_21, e_22⟩ : ∃ y : Int32, y = yk + Int32.ofInt 1 := ⟨_, rfl⟩
        have i_x_21 : x_21.toInt = yk.toInt + 1 := by rw [e_22, show Int32.ofInt 1 = 1 by decide]; exact (q_add (by rw [show (1 : Int32).toInt = 1 by decide]; omega) (by rw [show (1 : Int32).toInt = 1 by decide]; omega)).trans (by rw [show (1 : Int32).toInt = 1 by decide])
        refine lv_iinc (v := x_21) (lv' := [(3, .int x_21), (0, .ref a0), (1, .int a1), (2, .ref a2)]) hx hb dX4_put_17 hl (k := 0) rfl e_22.symm (by decide) rfl (fun ls hl => ?_)
        refine lv_goto (tgt := 2) hx hb dX4_put_20 (by decide) ?_
        exfalso; omega
    | succ k ih =>
      intro yk H locs ls hk v0 v1 hG hS hl
      refine (hWW _ _ _).mpr ?_
      refine lv_pc (pc2 := 2) rfl ?_
      refine lv_iload_n hx hb dX4_put_2 rfl (lv_at hl 0 rfl) ?_
      refine lv_bipush (v := 6) hx hb dX4_put_3 (by decide) ?_
      refine lv_icmp_ge (tgt := 23) hx hb dX4_put_5 (by decide) (fun c_23 => ?_) (fun c_23 => ?_)
      · skip
        have c_23 : 6 ≤ yk.toInt := q_le c_23
        exact (hWW _ _ _).mp (kx yk H locs ls (by omega) (by omega) hG hS (lv_sub hl [0, 1, 2, 3] rfl))
      · skip
        have c_23 : yk.toInt < 6 := q_nle c_23
        refine lv_aload_n hx hb dX4_put_8 rfl (lv_at hl 1 rfl) ?_
        refine lv_iload_n hx hb dX4_put_9 rfl (lv_at hl 2 rfl) ?_
        refine lv_iload_n hx hb dX4_put_10 rfl (lv_at hl 0 rfl) ?_
        refine lv_aload_n hx hb dX4_put_11 rfl (lv_at hl 3 rfl) ?_
        refine lv_iload_n hx hb dX4_put_12 rfl (lv_at hl 0 rfl) ?_
        refine lv_pc (pc2 := 13) rfl ?_
        obtain ⟨f_24, at_25⟩ := gF_o11 hG k_a2
        have b_26 : vp_in yk 6 := (q_in (by omega) (by omega))
        refine va_iald hx hb hK (va_one at_25) 0 0 rfl rfl b_26 dX4_put_13 ?_
        refine lv_topi (fun x_27 e_28 => ?_)
        obtain ⟨r_29, r_31, r_33, v_35, v_36, v_37, at_39, h_30, h_32, h_34, h_38⟩ := gF_o3 hG k_a0
        refine ty_callv ((W.runV (As := [.int a1, .int yk, .int x_27]) (rest := []) ⟨hx, hb, hml, hown, hts⟩ (s_X4_putCell l D t cI cL cC gC gE G gW gA a0 a1 yk x_27 k_a0) (cwV 3 hts gu_X4_put_X4_putCell_51 rfl rfl rfl (by decide +kernel) ⟨Nat.le_of_ble_eq_true rfl, Nat.le_of_ble_eq_true rfl⟩) (tP_V hG hE at_39 rfl) rfl rfl hl.1 rfl (lv_room (Nat.le_of_ble_eq_true rfl)) dX4_put_14 ⟨Nat.le_of_ble_eq_true rfl, Nat.le_of_ble_eq_true rfl⟩)) hS (fun _ h => h) (fun H locs hp_41 hG hS o_42 => ?_)
        have at_25 := va_at.keptC at_25 o_42 k_a2 rfl
        obtain ⟨x_43, e_44⟩ : ∃ y : Int32, y = yk + Int32.ofInt 1 := ⟨_, rfl⟩
        have i_x_43 : x_43.toInt = yk.toInt + 1 := by rw [e_44, show Int32.ofInt 1 = 1 by decide]; exact (q_add (by rw [show (1 : Int32).toInt = 1 by decide]; omega) (by rw [show (1 : Int32).toInt = 1 by decide]; omega)).trans (by rw [show (1 : Int32).toInt = 1 by decide])
        refine lv_iinc (v := x_43) (lv' := [(3, .int x_43), (0, .ref a0), (1, .int a1), (2, .ref a2)]) hx hb dX4_put_17 hl (k := 0) rfl e_44.symm (by decide) rfl (fun ls hl => ?_)
        refine lv_goto (tgt := 2) hx hb dX4_put_20 (by decide) ?_
        exact (hWW _ _ _).mp (ih x_43 H locs ls (by omega) (by omega) (by omega) hG hS (lv_sub hl [0, 1, 2, 3] rfl))
  have hz_yk : (0 : Int32).toInt = 0 := by decide
  exact loop (6 - 0 : Int).toNat 0 H locs ls (by omega) (by omega) (by omega) hG hS (lv_sub hl [0, 1, 2, 3] rfl)

def uX4_add : List Cond := .code yX4_add cX4_add 2 none :: ([.fieldLink RX4 21 "RiverModel$Model" "many" "I", .methodLink RX4 55 yX4_put, .instanceMethod yX4_put, .selects RX4 yX4_put yX4_put, .initialized RX4, .fieldLink RX4 28 "RiverModel$Model" "gates" "I", .fieldLink RX4 18 "RiverModel$Model" "gateItems" "[I", .initialized RX9, .static yX9_isNoStore, .fieldLink RX4 15 "RiverModel$Model" "storeItems" "[I", .fieldLink RX4 25 "RiverModel$Model" "stores" "I", .code yX4_put cX4_put 4 none, .methodLink RX4 51 yX4_putCell, .instanceMethod yX4_putCell, .selects RX4 yX4_putCell yX4_putCell, .code yX4_putCell cX4_putCell 4 none, .static yX9_isNoItem, .static yX9_isOutside, .fieldLink RX4 9 "RiverModel$Model" "cells" "[I", .code yX9_isNoItem cX9_isNoItem 1 (some .boolean), .code yX9_isOutside cX9_isOutside 3 (some .boolean), .code yX9_isNoStore cX9_isNoStore 1 (some .boolean)] ++ wsX40)
set_option maxRecDepth 20000 in
theorem gu_X4_add_X4_put_55 : GoodIn uX4_add (wsV RX4 55 RX4 yX4_put uX4_put) := goodIn_r _ [2, 3, 4, 5, 12, 13, 14, 15, 5, 16, 8, 17, 18, 19, 20, 21, 23, 24, 25, 26, 27, 28] rfl (by decide +kernel)
set_option maxRecDepth 20000 in
theorem gu_X4_add_X9_isNoStore_n : GoodIn uX4_add (uX9_isNoStore) := goodIn_r _ [22] rfl (by decide +kernel)
set_option maxHeartbeats 4000000 in
set_option maxRecDepth 100000 in
theorem s_X4_add (l : Launch) (D : va_G) (t : Nat → Nat) (cI cL cC : ClassId) (gC : Int32) (gE : Int32) (G : Nat) (gW : Nat → Int32) (gA : Nat → Int32) (a0 : Nat) (a1 : Nat) (k_a0 : t a0 = 3) (k_a1 : t a1 = 11) : tM l yX4_add uX4_add 3 68 D (gF cI cL cC gC gE G gW gA) (gF cI cL cC gC gE G gW gA) t cI cL cC [.ref a0, .ref a1] wrMo (pV (True)) := by
  refine tM.ofW (cc := cX4_add) (maxL := 2) (ret := none) (by decide) rfl (Nat.le_of_ble_eq_true rfl) ?_
  intro p e s m below meth c hx hb hr hml hown hts hlk H locs hG hK hE hS ls hl
  have hl : lv_has ls 2 [(0, .ref a0), (1, .ref a1)] := hl
  have in4 : ∀ w ∈ wsX40, w ∈ uX4_add := fun w h => List.mem_cons_of_mem _ (List.mem_append_right _ h)
  refine lv_aload_n hx hb dX4_add_0 rfl (lv_at hl 0 rfl) ?_
  obtain ⟨r_1, r_3, r_5, v_7, v_8, v_9, at_11, h_2, h_4, h_6, h_10⟩ := gF_o3 hG k_a0
  refine va_get (D := D) (ci := 3) (v := .int v_7) (C := RX4) (T := TX4) (N := 6) hx hb hts in4 hown hK (va_one at_11) 0 rfl rfl 3 (by decide) (hts (.fieldLink RX4 21 "RiverModel$Model" "many" "I") (List.mem_of_getElem? (i := 1) rfl)) (fun _ h9 => h9) rfl dX4_add_1 ?_
  refine lv_bipush (v := 40) hx hb dX4_add_4 (by decide) ?_
  refine lv_icmp_lt (tgt := 10) hx hb dX4_add_6 (by decide) (fun c_12 => ?_) (fun c_12 => ?_)
  · skip
    have c_12 : v_7.toInt < 40 := q_lt c_12
    refine lv_aload_n hx hb dX4_add_10 rfl (lv_at hl 0 rfl) ?_
    refine lv_aload_n hx hb dX4_add_11 rfl (lv_at hl 0 rfl) ?_
    refine va_get (D := D) (ci := 3) (v := .int v_7) (C := RX4) (T := TX4) (N := 6) hx hb hts in4 hown hK (va_one at_11) 0 rfl rfl 3 (by decide) (hts (.fieldLink RX4 21 "RiverModel$Model" "many" "I") (List.mem_of_getElem? (i := 1) rfl)) (fun _ h9 => h9) rfl dX4_add_12 ?_
    refine lv_pc (pc2 := 15) rfl ?_
    refine lv_aload_n hx hb dX4_add_15 rfl (lv_at hl 1 rfl) ?_
    refine ty_callv ((W.runV (As := [.int v_7, .ref a1]) (rest := []) ⟨hx, hb, hml, hown, hts⟩ (s_X4_put l D t cI cL cC gC gE G gW gA a0 v_7 a1 k_a0 k_a1) (cwV 2 hts gu_X4_add_X4_put_55 rfl rfl rfl (by decide +kernel) ⟨Nat.le_of_ble_eq_true rfl, Nat.le_of_ble_eq_true rfl⟩) (tP_V hG hE at_11 rfl) rfl rfl hl.1 rfl (lv_room (Nat.le_of_ble_eq_true rfl)) dX4_add_16 ⟨Nat.le_of_ble_eq_true rfl, Nat.le_of_ble_eq_true rfl⟩)) hS (fun _ h => h) (fun H locs hp_14 hG hS o_15 => ?_)
    refine lv_aload_n hx hb dX4_add_19 rfl (lv_at hl 1 rfl) ?_
    refine lv_iconst (v := 0) hx hb dX4_add_20 (by decide) ?_
    obtain ⟨f_16, at_17⟩ := gF_o11 hG k_a1
    have b_18 : vp_in 0 6 := (q_in (by decide) (by decide))
    refine va_iald hx hb hK (va_one at_17) 0 0 rfl rfl b_18 dX4_add_21 ?_
    refine lv_topi (fun x_19 e_20 => ?_)
    refine lv_bipush (v := 115) hx hb dX4_add_22 (by decide) ?_
    refine lv_icmp_ne (tgt := 58) hx hb dX4_add_24 (by decide) (fun c_21 => ?_) (fun c_21 => ?_)
    · skip
      have c_21 : x_19.toInt ≠ 115 := q_ne c_21
      refine lv_aload_n hx hb dX4_add_58 rfl (lv_at hl 1 rfl) ?_
      refine lv_pc (pc2 := 59) rfl ?_
      refine lv_iconst (v := 0) hx hb dX4_add_59 (by decide) ?_
      have b_22 : vp_in 0 6 := (q_in (by decide) (by decide))
      refine va_iald hx hb hK (va_one at_17) 0 0 rfl rfl b_22 dX4_add_60 ?_
      refine lv_seti (y := x_19) e_20.symm ?_
      refine lv_bipush (v := 103) hx hb dX4_add_61 (by decide) ?_
      refine lv_icmp_ne (tgt := 97) hx hb dX4_add_63 (by decide) (fun c_23 => ?_) (fun c_23 => ?_)
      · skip
        have c_23 : x_19.toInt ≠ 103 := q_ne c_23
        refine lv_aload_n hx hb dX4_add_97 rfl (lv_at hl 0 rfl) ?_
        refine lv_dup hx hb dX4_add_98 rfl ?_
        obtain ⟨r_24, r_26, r_28, v_30, v_31, v_32, at_34, h_25, h_27, h_29, h_33⟩ := gF_o3 hG k_a0
        refine va_get (D := D) (ci := 3) (v := .int v_30) (C := RX4) (T := TX4) (N := 6) hx hb hts in4 hown hK (va_one at_34) 0 rfl rfl 3 (by decide) (hts (.fieldLink RX4 21 "RiverModel$Model" "many" "I") (List.mem_of_getElem? (i := 1) rfl)) (fun _ h9 => h9) rfl dX4_add_99 ?_
        refine lv_iconst (v := 1) hx hb dX4_add_102 (by decide) ?_
        refine lv_pc (pc2 := 103) rfl ?_
        refine lv_iadd hx hb dX4_add_103 ?_
        refine lv_topi (fun x_35 e_36 => ?_)
        refine ty_put (D := D) (ci := 3) (v := .int x_35) (ty := .int) (C := RX4) (T := TX4) (N := 6) (F2 := (gF cI cL cC gC gE G gW gA)) hx hb hts in4 tyX4 tyX4_ok nmX4 hown hK hG hS at_34 (by rw [k_a0]; rfl) rfl 3 (by decide) (hts (.fieldLink RX4 21 "RiverModel$Model" "many" "I") (List.mem_of_getElem? (i := 1) rfl)) (fun _ h9 => h9) rfl (by decide +kernel) rfl rfl (Nat.le_of_ble_eq_true rfl) (by rw [k_a0]; exact ⟨r_24, r_26, r_28, x_35, v_31, v_32, rfl, h_25, h_27, h_29, (by omega)⟩) tFF dX4_add_104 (fun H locs hG hS at_37 o_38 => ?_)
        have at_37 : va_at D vwCl (a0, .inr (3, [.ref r_24, .ref r_26, .ref r_28, .int x_35, .int v_31, .int v_32])) H := at_37
        have at_17 := va_at.keptK at_17 o_38 k_a0 k_a1 rfl
        exact ty_vret hx hb hr hlk hG hS True.intro dX4_add_107
      · skip
        have c_23 : x_19.toInt = 103 := q_eq c_23
        refine lv_aload_n hx hb dX4_add_66 rfl (lv_at hl 0 rfl) ?_
        obtain ⟨r_39, r_41, r_43, v_45, v_46, v_47, at_49, h_40, h_42, h_44, h_48⟩ := gF_o3 hG k_a0
        refine va_get (D := D) (ci := 3) (v := .int v_47) (C := RX4) (T := TX4) (N := 6) hx hb hts in4 hown hK (va_one at_49) 0 rfl rfl 5 (by decide) (hts (.fieldLink RX4 28 "RiverModel$Model" "gates" "I") (List.mem_of_getElem? (i := 6) rfl)) (fun _ h9 => h9) rfl dX4_add_67 ?_
        refine lv_iconst (v := 4) hx hb dX4_add_70 (by decide) ?_
        refine lv_icmp_ge (tgt := 97) hx hb dX4_add_71 (by decide) (fun c_50 => ?_) (fun c_50 => ?_)
        · skip
          have c_50 : 4 ≤ v_47.toInt := q_le c_50
          refine lv_aload_n hx hb dX4_add_97 rfl (lv_at hl 0 rfl) ?_
          refine lv_pc (pc2 := 98) rfl ?_
          refine lv_dup hx hb dX4_add_98 rfl ?_
          refine va_get (D := D) (ci := 3) (v := .int v_45) (C := RX4) (T := TX4) (N := 6) hx hb hts in4 hown hK (va_one at_49) 0 rfl rfl 3 (by decide) (hts (.fieldLink RX4 21 "RiverModel$Model" "many" "I") (List.mem_of_getElem? (i := 1) rfl)) (fun _ h9 => h9) rfl dX4_add_99 ?_
          refine lv_iconst (v := 1) hx hb dX4_add_102 (by decide) ?_
          refine lv_iadd hx hb dX4_add_103 ?_
          refine lv_topi (fun x_51 e_52 => ?_)
          refine ty_put (D := D) (ci := 3) (v := .int x_51) (ty := .int) (C := RX4) (T := TX4) (N := 6) (F2 := (gF cI cL cC gC gE G gW gA)) hx hb hts in4 tyX4 tyX4_ok nmX4 hown hK hG hS at_49 (by rw [k_a0]; rfl) rfl 3 (by decide) (hts (.fieldLink RX4 21 "RiverModel$Model" "many" "I") (List.mem_of_getElem? (i := 1) rfl)) (fun _ h9 => h9) rfl (by decide +kernel) rfl rfl (Nat.le_of_ble_eq_true rfl) (by rw [k_a0]; exact ⟨r_39, r_41, r_43, x_51, v_46, v_47, rfl, h_40, h_42, h_44, (by omega)⟩) tFF dX4_add_104 (fun H locs hG hS at_53 o_54 => ?_)
          have at_53 : va_at D vwCl (a0, .inr (3, [.ref r_39, .ref r_41, .ref r_43, .int x_51, .int v_46, .int v_47])) H := at_53
          have at_17 := va_at.keptK at_17 o_54 k_a0 k_a1 rfl
          exact ty_vret hx hb hr hlk hG hS True.intro dX4_add_107
        · skip
          have c_50 : v_47.toInt < 4 := q_nle c_50
          refine lv_aload_n hx hb dX4_add_74 rfl (lv_at hl 0 rfl) ?_
          refine va_get (D := D) (ci := 3) (v := .ref r_43) (C := RX4) (T := TX4) (N := 6) hx hb hts in4 hown hK (va_one at_49) 0 rfl rfl 2 (by decide) (hts (.fieldLink RX4 18 "RiverModel$Model" "gateItems" "[I") (List.mem_of_getElem? (i := 7) rfl)) (fun _ h9 => h9) rfl dX4_add_75 ?_
          refine lv_pc (pc2 := 78) rfl ?_
          refine lv_aload_n hx hb dX4_add_78 rfl (lv_at hl 0 rfl) ?_
          refine va_get (D := D) (ci := 3) (v := .int v_47) (C := RX4) (T := TX4) (N := 6) hx hb hts in4 hown hK (va_one at_49) 0 rfl rfl 5 (by decide) (hts (.fieldLink RX4 28 "RiverModel$Model" "gates" "I") (List.mem_of_getElem? (i := 6) rfl)) (fun _ h9 => h9) rfl dX4_add_79 ?_
          refine lv_aload_n hx hb dX4_add_82 rfl (lv_at hl 0 rfl) ?_
          refine va_get (D := D) (ci := 3) (v := .int v_45) (C := RX4) (T := TX4) (N := 6) hx hb hts in4 hown hK (va_one at_49) 0 rfl rfl 3 (by decide) (hts (.fieldLink RX4 21 "RiverModel$Model" "many" "I") (List.mem_of_getElem? (i := 1) rfl)) (fun _ h9 => h9) rfl dX4_add_83 ?_
          obtain ⟨f_55, at_56⟩ := gF_o14 hG h_44
          have b_57 : vp_in v_47 4 := (q_in (by omega) (by omega))
          refine ty_iast (F2 := (gF cI cL cC gC gE G gW gA)) hx hb hK hG hS 0 at_56 (by rw [h_44]; rfl) rfl b_57 (by rw [h_44]; exact ⟨_, rfl⟩) tFF dX4_add_86 (fun H locs hG hS at_58 o_59 => ?_)
          have at_17 := va_at.keptK at_17 o_59 h_44 k_a1 rfl
          have at_49 := va_at.keptK at_49 o_59 h_44 k_a0 rfl
          refine lv_aload_n hx hb dX4_add_87 rfl (lv_at hl 0 rfl) ?_
          refine lv_dup hx hb dX4_add_88 rfl ?_
          refine va_get (D := D) (ci := 3) (v := .int v_47) (C := RX4) (T := TX4) (N := 6) hx hb hts in4 hown hK (va_one at_49) 0 rfl rfl 5 (by decide) (hts (.fieldLink RX4 28 "RiverModel$Model" "gates" "I") (List.mem_of_getElem? (i := 6) rfl)) (fun _ h9 => h9) rfl dX4_add_89 ?_
          refine lv_pc (pc2 := 92) rfl ?_
          refine lv_iconst (v := 1) hx hb dX4_add_92 (by decide) ?_
          refine lv_iadd hx hb dX4_add_93 ?_
          refine lv_topi (fun x_60 e_61 => ?_)
          have i_x_60 : x_60.toInt = v_47.toInt + 1 := by rw [e_61]; exact (q_add (by rw [show (1 : Int32).toInt = 1 by decide]; omega) (by rw [show (1 : Int32).toInt = 1 by decide]; omega)).trans (by rw [show (1 : Int32).toInt = 1 by decide])
          refine ty_put (D := D) (ci := 3) (v := .int x_60) (ty := .int) (C := RX4) (T := TX4) (N := 6) (F2 := (gF cI cL cC gC gE G gW gA)) hx hb hts in4 tyX4 tyX4_ok nmX4 hown hK hG hS at_49 (by rw [k_a0]; rfl) rfl 5 (by decide) (hts (.fieldLink RX4 28 "RiverModel$Model" "gates" "I") (List.mem_of_getElem? (i := 6) rfl)) (fun _ h9 => h9) rfl (by decide +kernel) rfl rfl (Nat.le_of_ble_eq_true rfl) (by rw [k_a0]; exact ⟨r_39, r_41, r_43, v_45, v_46, x_60, rfl, h_40, h_42, h_44, (by omega)⟩) tFF dX4_add_94 (fun H locs hG hS at_62 o_63 => ?_)
          have at_62 : va_at D vwCl (a0, .inr (3, [.ref r_39, .ref r_41, .ref r_43, .int v_45, .int v_46, .int x_60])) H := at_62
          have at_17 := va_at.keptK at_17 o_63 k_a0 k_a1 rfl
          refine lv_aload_n hx hb dX4_add_97 rfl (lv_at hl 0 rfl) ?_
          refine lv_dup hx hb dX4_add_98 rfl ?_
          refine va_get (D := D) (ci := 3) (v := .int v_45) (C := RX4) (T := TX4) (N := 6) hx hb hts in4 hown hK (va_one at_62) 0 rfl rfl 3 (by decide) (hts (.fieldLink RX4 21 "RiverModel$Model" "many" "I") (List.mem_of_getElem? (i := 1) rfl)) (fun _ h9 => h9) rfl dX4_add_99 ?_
          refine lv_iconst (v := 1) hx hb dX4_add_102 (by decide) ?_
          refine lv_iadd hx hb dX4_add_103 ?_
          refine lv_topi (fun x_64 e_65 => ?_)
          refine lv_pc (pc2 := 104) rfl ?_
          refine ty_put (D := D) (ci := 3) (v := .int x_64) (ty := .int) (C := RX4) (T := TX4) (N := 6) (F2 := (gF cI cL cC gC gE G gW gA)) hx hb hts in4 tyX4 tyX4_ok nmX4 hown hK hG hS at_62 (by rw [k_a0]; rfl) rfl 3 (by decide) (hts (.fieldLink RX4 21 "RiverModel$Model" "many" "I") (List.mem_of_getElem? (i := 1) rfl)) (fun _ h9 => h9) rfl (by decide +kernel) rfl rfl (Nat.le_of_ble_eq_true rfl) (by rw [k_a0]; exact ⟨r_39, r_41, r_43, x_64, v_46, x_60, rfl, h_40, h_42, h_44, (by omega)⟩) tFF dX4_add_104 (fun H locs hG hS at_66 o_67 => ?_)
          have at_66 : va_at D vwCl (a0, .inr (3, [.ref r_39, .ref r_41, .ref r_43, .int x_64, .int v_46, .int x_60])) H := at_66
          have at_17 := va_at.keptK at_17 o_67 k_a0 k_a1 rfl
          exact ty_vret hx hb hr hlk hG hS True.intro dX4_add_107
    · skip
      have c_21 : x_19.toInt = 115 := q_eq c_21
      refine lv_aload_n hx hb dX4_add_27 rfl (lv_at hl 1 rfl) ?_
      refine lv_iconst (v := 1) hx hb dX4_add_28 (by decide) ?_
      have b_68 : vp_in 1 6 := (q_in (by decide) (by decide))
      refine va_iald hx hb hK (va_one at_17) 0 0 rfl rfl b_68 dX4_add_29 ?_
      refine lv_topi (fun x_69 e_70 => ?_)
      refine ty_calli (tRun (va_runSN (As := [.int x_69]) (rest := []) ⟨hx, hb, hml, hown, hts⟩ (s_X9_isNoStore l D t cI cL cC gC gE G gW gA x_69 ) ⟨(va_cnB 1 hts gu_X4_add_X9_isNoStore_n rfl rfl rfl (hE.2.1 _ (List.mem_of_getElem? (i := 10) rfl)) (hts (.initialized RX9) (List.mem_of_getElem? (i := 8) rfl)) (by decide +kernel) ⟨Nat.le_of_ble_eq_true rfl, Nat.le_of_ble_eq_true rfl⟩), (hts (.static yX9_isNoStore) (List.mem_of_getElem? (i := 9) rfl)), trivial⟩ (tP_S hG hE) rfl rfl hl.1 rfl (lv_room (Nat.le_of_ble_eq_true rfl)) dX4_add_30 ⟨Nat.le_of_ble_eq_true rfl, Nat.le_of_ble_eq_true rfl⟩)) hS (fun k h => by simp [wr0] at h) (fun r_71 H locs hp_72 hG hS o_73 => ?_)
      have at_17 := va_at.keptC at_17 o_73 k_a1 rfl
      rcases hp_72 with ⟨rfl, hc_19⟩ | ⟨rfl, hc_20, hc_21⟩
      · skip
        refine lv_if_ne (tgt := 58) hx hb dX4_add_33 (by decide) (fun _ => ?_) (fun q => absurd q (by decide))
        refine lv_aload_n hx hb dX4_add_58 rfl (lv_at hl 1 rfl) ?_
        refine lv_pc (pc2 := 59) rfl ?_
        refine lv_iconst (v := 0) hx hb dX4_add_59 (by decide) ?_
        have b_74 : vp_in 0 6 := (q_in (by decide) (by decide))
        refine va_iald hx hb hK (va_one at_17) 0 0 rfl rfl b_74 dX4_add_60 ?_
        refine lv_seti (y := x_19) e_20.symm ?_
        refine lv_bipush (v := 103) hx hb dX4_add_61 (by decide) ?_
        refine lv_icmp_ne (tgt := 97) hx hb dX4_add_63 (by decide) (fun c_75 => ?_) (fun c_75 => ?_)
        · skip
          have c_75 : x_19.toInt ≠ 103 := q_ne c_75
          refine lv_aload_n hx hb dX4_add_97 rfl (lv_at hl 0 rfl) ?_
          refine lv_dup hx hb dX4_add_98 rfl ?_
          obtain ⟨r_76, r_78, r_80, v_82, v_83, v_84, at_86, h_77, h_79, h_81, h_85⟩ := gF_o3 hG k_a0
          refine va_get (D := D) (ci := 3) (v := .int v_82) (C := RX4) (T := TX4) (N := 6) hx hb hts in4 hown hK (va_one at_86) 0 rfl rfl 3 (by decide) (hts (.fieldLink RX4 21 "RiverModel$Model" "many" "I") (List.mem_of_getElem? (i := 1) rfl)) (fun _ h9 => h9) rfl dX4_add_99 ?_
          refine lv_iconst (v := 1) hx hb dX4_add_102 (by decide) ?_
          refine lv_pc (pc2 := 103) rfl ?_
          refine lv_iadd hx hb dX4_add_103 ?_
          refine lv_topi (fun x_87 e_88 => ?_)
          refine ty_put (D := D) (ci := 3) (v := .int x_87) (ty := .int) (C := RX4) (T := TX4) (N := 6) (F2 := (gF cI cL cC gC gE G gW gA)) hx hb hts in4 tyX4 tyX4_ok nmX4 hown hK hG hS at_86 (by rw [k_a0]; rfl) rfl 3 (by decide) (hts (.fieldLink RX4 21 "RiverModel$Model" "many" "I") (List.mem_of_getElem? (i := 1) rfl)) (fun _ h9 => h9) rfl (by decide +kernel) rfl rfl (Nat.le_of_ble_eq_true rfl) (by rw [k_a0]; exact ⟨r_76, r_78, r_80, x_87, v_83, v_84, rfl, h_77, h_79, h_81, (by omega)⟩) tFF dX4_add_104 (fun H locs hG hS at_89 o_90 => ?_)
          have at_89 : va_at D vwCl (a0, .inr (3, [.ref r_76, .ref r_78, .ref r_80, .int x_87, .int v_83, .int v_84])) H := at_89
          have at_17 := va_at.keptK at_17 o_90 k_a0 k_a1 rfl
          exact ty_vret hx hb hr hlk hG hS True.intro dX4_add_107
        · skip
          have c_75 : x_19.toInt = 103 := q_eq c_75
          refine lv_aload_n hx hb dX4_add_66 rfl (lv_at hl 0 rfl) ?_
          obtain ⟨r_91, r_93, r_95, v_97, v_98, v_99, at_101, h_92, h_94, h_96, h_100⟩ := gF_o3 hG k_a0
          refine va_get (D := D) (ci := 3) (v := .int v_99) (C := RX4) (T := TX4) (N := 6) hx hb hts in4 hown hK (va_one at_101) 0 rfl rfl 5 (by decide) (hts (.fieldLink RX4 28 "RiverModel$Model" "gates" "I") (List.mem_of_getElem? (i := 6) rfl)) (fun _ h9 => h9) rfl dX4_add_67 ?_
          refine lv_iconst (v := 4) hx hb dX4_add_70 (by decide) ?_
          refine lv_icmp_ge (tgt := 97) hx hb dX4_add_71 (by decide) (fun c_102 => ?_) (fun c_102 => ?_)
          · skip
            have c_102 : 4 ≤ v_99.toInt := q_le c_102
            refine lv_aload_n hx hb dX4_add_97 rfl (lv_at hl 0 rfl) ?_
            refine lv_pc (pc2 := 98) rfl ?_
            refine lv_dup hx hb dX4_add_98 rfl ?_
            refine va_get (D := D) (ci := 3) (v := .int v_97) (C := RX4) (T := TX4) (N := 6) hx hb hts in4 hown hK (va_one at_101) 0 rfl rfl 3 (by decide) (hts (.fieldLink RX4 21 "RiverModel$Model" "many" "I") (List.mem_of_getElem? (i := 1) rfl)) (fun _ h9 => h9) rfl dX4_add_99 ?_
            refine lv_iconst (v := 1) hx hb dX4_add_102 (by decide) ?_
            refine lv_iadd hx hb dX4_add_103 ?_
            refine lv_topi (fun x_103 e_104 => ?_)
            refine ty_put (D := D) (ci := 3) (v := .int x_103) (ty := .int) (C := RX4) (T := TX4) (N := 6) (F2 := (gF cI cL cC gC gE G gW gA)) hx hb hts in4 tyX4 tyX4_ok nmX4 hown hK hG hS at_101 (by rw [k_a0]; rfl) rfl 3 (by decide) (hts (.fieldLink RX4 21 "RiverModel$Model" "many" "I") (List.mem_of_getElem? (i := 1) rfl)) (fun _ h9 => h9) rfl (by decide +kernel) rfl rfl (Nat.le_of_ble_eq_true rfl) (by rw [k_a0]; exact ⟨r_91, r_93, r_95, x_103, v_98, v_99, rfl, h_92, h_94, h_96, (by omega)⟩) tFF dX4_add_104 (fun H locs hG hS at_105 o_106 => ?_)
            have at_105 : va_at D vwCl (a0, .inr (3, [.ref r_91, .ref r_93, .ref r_95, .int x_103, .int v_98, .int v_99])) H := at_105
            have at_17 := va_at.keptK at_17 o_106 k_a0 k_a1 rfl
            exact ty_vret hx hb hr hlk hG hS True.intro dX4_add_107
          · skip
            have c_102 : v_99.toInt < 4 := q_nle c_102
            refine lv_aload_n hx hb dX4_add_74 rfl (lv_at hl 0 rfl) ?_
            refine va_get (D := D) (ci := 3) (v := .ref r_95) (C := RX4) (T := TX4) (N := 6) hx hb hts in4 hown hK (va_one at_101) 0 rfl rfl 2 (by decide) (hts (.fieldLink RX4 18 "RiverModel$Model" "gateItems" "[I") (List.mem_of_getElem? (i := 7) rfl)) (fun _ h9 => h9) rfl dX4_add_75 ?_
            refine lv_pc (pc2 := 78) rfl ?_
            refine lv_aload_n hx hb dX4_add_78 rfl (lv_at hl 0 rfl) ?_
            refine va_get (D := D) (ci := 3) (v := .int v_99) (C := RX4) (T := TX4) (N := 6) hx hb hts in4 hown hK (va_one at_101) 0 rfl rfl 5 (by decide) (hts (.fieldLink RX4 28 "RiverModel$Model" "gates" "I") (List.mem_of_getElem? (i := 6) rfl)) (fun _ h9 => h9) rfl dX4_add_79 ?_
            refine lv_aload_n hx hb dX4_add_82 rfl (lv_at hl 0 rfl) ?_
            refine va_get (D := D) (ci := 3) (v := .int v_97) (C := RX4) (T := TX4) (N := 6) hx hb hts in4 hown hK (va_one at_101) 0 rfl rfl 3 (by decide) (hts (.fieldLink RX4 21 "RiverModel$Model" "many" "I") (List.mem_of_getElem? (i := 1) rfl)) (fun _ h9 => h9) rfl dX4_add_83 ?_
            obtain ⟨f_107, at_108⟩ := gF_o14 hG h_96
            have b_109 : vp_in v_99 4 := (q_in (by omega) (by omega))
            refine ty_iast (F2 := (gF cI cL cC gC gE G gW gA)) hx hb hK hG hS 0 at_108 (by rw [h_96]; rfl) rfl b_109 (by rw [h_96]; exact ⟨_, rfl⟩) tFF dX4_add_86 (fun H locs hG hS at_110 o_111 => ?_)
            have at_17 := va_at.keptK at_17 o_111 h_96 k_a1 rfl
            have at_101 := va_at.keptK at_101 o_111 h_96 k_a0 rfl
            refine lv_aload_n hx hb dX4_add_87 rfl (lv_at hl 0 rfl) ?_
            refine lv_dup hx hb dX4_add_88 rfl ?_
            refine va_get (D := D) (ci := 3) (v := .int v_99) (C := RX4) (T := TX4) (N := 6) hx hb hts in4 hown hK (va_one at_101) 0 rfl rfl 5 (by decide) (hts (.fieldLink RX4 28 "RiverModel$Model" "gates" "I") (List.mem_of_getElem? (i := 6) rfl)) (fun _ h9 => h9) rfl dX4_add_89 ?_
            refine lv_pc (pc2 := 92) rfl ?_
            refine lv_iconst (v := 1) hx hb dX4_add_92 (by decide) ?_
            refine lv_iadd hx hb dX4_add_93 ?_
            refine lv_topi (fun x_112 e_113 => ?_)
            have i_x_112 : x_112.toInt = v_99.toInt + 1 := by rw [e_113]; exact (q_add (by rw [show (1 : Int32).toInt = 1 by decide]; omega) (by rw [show (1 : Int32).toInt = 1 by decide]; omega)).trans (by rw [show (1 : Int32).toInt = 1 by decide])
            refine ty_put (D := D) (ci := 3) (v := .int x_112) (ty := .int) (C := RX4) (T := TX4) (N := 6) (F2 := (gF cI cL cC gC gE G gW gA)) hx hb hts in4 tyX4 tyX4_ok nmX4 hown hK hG hS at_101 (by rw [k_a0]; rfl) rfl 5 (by decide) (hts (.fieldLink RX4 28 "RiverModel$Model" "gates" "I") (List.mem_of_getElem? (i := 6) rfl)) (fun _ h9 => h9) rfl (by decide +kernel) rfl rfl (Nat.le_of_ble_eq_true rfl) (by rw [k_a0]; exact ⟨r_91, r_93, r_95, v_97, v_98, x_112, rfl, h_92, h_94, h_96, (by omega)⟩) tFF dX4_add_94 (fun H locs hG hS at_114 o_115 => ?_)
            have at_114 : va_at D vwCl (a0, .inr (3, [.ref r_91, .ref r_93, .ref r_95, .int v_97, .int v_98, .int x_112])) H := at_114
            have at_17 := va_at.keptK at_17 o_115 k_a0 k_a1 rfl
            refine lv_aload_n hx hb dX4_add_97 rfl (lv_at hl 0 rfl) ?_
            refine lv_dup hx hb dX4_add_98 rfl ?_
            refine va_get (D := D) (ci := 3) (v := .int v_97) (C := RX4) (T := TX4) (N := 6) hx hb hts in4 hown hK (va_one at_114) 0 rfl rfl 3 (by decide) (hts (.fieldLink RX4 21 "RiverModel$Model" "many" "I") (List.mem_of_getElem? (i := 1) rfl)) (fun _ h9 => h9) rfl dX4_add_99 ?_
            refine lv_iconst (v := 1) hx hb dX4_add_102 (by decide) ?_
            refine lv_iadd hx hb dX4_add_103 ?_
            refine lv_topi (fun x_116 e_117 => ?_)
            refine lv_pc (pc2 := 104) rfl ?_
            refine ty_put (D := D) (ci := 3) (v := .int x_116) (ty := .int) (C := RX4) (T := TX4) (N := 6) (F2 := (gF cI cL cC gC gE G gW gA)) hx hb hts in4 tyX4 tyX4_ok nmX4 hown hK hG hS at_114 (by rw [k_a0]; rfl) rfl 3 (by decide) (hts (.fieldLink RX4 21 "RiverModel$Model" "many" "I") (List.mem_of_getElem? (i := 1) rfl)) (fun _ h9 => h9) rfl (by decide +kernel) rfl rfl (Nat.le_of_ble_eq_true rfl) (by rw [k_a0]; exact ⟨r_91, r_93, r_95, x_116, v_98, x_112, rfl, h_92, h_94, h_96, (by omega)⟩) tFF dX4_add_104 (fun H locs hG hS at_118 o_119 => ?_)
            have at_118 : va_at D vwCl (a0, .inr (3, [.ref r_91, .ref r_93, .ref r_95, .int x_116, .int v_98, .int x_112])) H := at_118
            have at_17 := va_at.keptK at_17 o_119 k_a0 k_a1 rfl
            exact ty_vret hx hb hr hlk hG hS True.intro dX4_add_107
      · skip
        refine lv_if_ne (tgt := 58) hx hb dX4_add_33 (by decide) (fun q => absurd rfl q) (fun _ => ?_)
        refine lv_aload_n hx hb dX4_add_36 rfl (lv_at hl 0 rfl) ?_
        obtain ⟨r_120, r_122, r_124, v_126, v_127, v_128, at_130, h_121, h_123, h_125, h_129⟩ := gF_o3 hG k_a0
        refine va_get (D := D) (ci := 3) (v := .ref r_122) (C := RX4) (T := TX4) (N := 6) hx hb hts in4 hown hK (va_one at_130) 0 rfl rfl 1 (by decide) (hts (.fieldLink RX4 15 "RiverModel$Model" "storeItems" "[I") (List.mem_of_getElem? (i := 10) rfl)) (fun _ h9 => h9) rfl dX4_add_37 ?_
        refine lv_aload_n hx hb dX4_add_40 rfl (lv_at hl 1 rfl) ?_
        refine lv_iconst (v := 1) hx hb dX4_add_41 (by decide) ?_
        have b_131 : vp_in 1 6 := (q_in (by decide) (by decide))
        refine va_iald hx hb hK (va_one at_17) 0 0 rfl rfl b_131 dX4_add_42 ?_
        refine lv_seti (y := x_69) e_70.symm ?_
        refine lv_pc (pc2 := 43) rfl ?_
        refine lv_aload_n hx hb dX4_add_43 rfl (lv_at hl 0 rfl) ?_
        refine va_get (D := D) (ci := 3) (v := .int v_126) (C := RX4) (T := TX4) (N := 6) hx hb hts in4 hown hK (va_one at_130) 0 rfl rfl 3 (by decide) (hts (.fieldLink RX4 21 "RiverModel$Model" "many" "I") (List.mem_of_getElem? (i := 1) rfl)) (fun _ h9 => h9) rfl dX4_add_44 ?_
        obtain ⟨f_132, at_133⟩ := gF_o13 hG h_123
        have b_134 : vp_in x_69 16 := (q_in (by omega) (by omega))
        refine ty_iast (F2 := (gF cI cL cC gC gE G gW gA)) hx hb hK hG hS 0 at_133 (by rw [h_123]; rfl) rfl b_134 (by rw [h_123]; exact ⟨_, rfl⟩) tFF dX4_add_47 (fun H locs hG hS at_135 o_136 => ?_)
        have at_17 := va_at.keptK at_17 o_136 h_123 k_a1 rfl
        have at_130 := va_at.keptK at_130 o_136 h_123 k_a0 rfl
        refine lv_aload_n hx hb dX4_add_48 rfl (lv_at hl 0 rfl) ?_
        refine lv_dup hx hb dX4_add_49 rfl ?_
        refine va_get (D := D) (ci := 3) (v := .int v_127) (C := RX4) (T := TX4) (N := 6) hx hb hts in4 hown hK (va_one at_130) 0 rfl rfl 4 (by decide) (hts (.fieldLink RX4 25 "RiverModel$Model" "stores" "I") (List.mem_of_getElem? (i := 11) rfl)) (fun _ h9 => h9) rfl dX4_add_50 ?_
        refine lv_iconst (v := 1) hx hb dX4_add_53 (by decide) ?_
        refine lv_iadd hx hb dX4_add_54 ?_
        refine lv_topi (fun x_137 e_138 => ?_)
        refine lv_pc (pc2 := 55) rfl ?_
        refine ty_put (D := D) (ci := 3) (v := .int x_137) (ty := .int) (C := RX4) (T := TX4) (N := 6) (F2 := (gF cI cL cC gC gE G gW gA)) hx hb hts in4 tyX4 tyX4_ok nmX4 hown hK hG hS at_130 (by rw [k_a0]; rfl) rfl 4 (by decide) (hts (.fieldLink RX4 25 "RiverModel$Model" "stores" "I") (List.mem_of_getElem? (i := 11) rfl)) (fun _ h9 => h9) rfl (by decide +kernel) rfl rfl (Nat.le_of_ble_eq_true rfl) (by rw [k_a0]; exact ⟨r_120, r_122, r_124, v_126, x_137, v_128, rfl, h_121, h_123, h_125, (by omega)⟩) tFF dX4_add_55 (fun H locs hG hS at_139 o_140 => ?_)
        have at_139 : va_at D vwCl (a0, .inr (3, [.ref r_120, .ref r_122, .ref r_124, .int v_126, .int x_137, .int v_128])) H := at_139
        have at_17 := va_at.keptK at_17 o_140 k_a0 k_a1 rfl
        refine lv_aload_n hx hb dX4_add_58 rfl (lv_at hl 1 rfl) ?_
        refine lv_iconst (v := 0) hx hb dX4_add_59 (by decide) ?_
        have b_141 : vp_in 0 6 := (q_in (by decide) (by decide))
        refine va_iald hx hb hK (va_one at_17) 0 0 rfl rfl b_141 dX4_add_60 ?_
        refine lv_seti (y := x_19) e_20.symm ?_
        refine lv_bipush (v := 103) hx hb dX4_add_61 (by decide) ?_
        refine lv_icmp_ne (tgt := 97) hx hb dX4_add_63 (by decide) (fun c_142 => ?_) (fun c_142 => ?_)
        · skip
          have c_142 : x_19.toInt ≠ 103 := q_ne c_142
          refine lv_aload_n hx hb dX4_add_97 rfl (lv_at hl 0 rfl) ?_
          refine lv_dup hx hb dX4_add_98 rfl ?_
          refine lv_pc (pc2 := 99) rfl ?_
          refine va_get (D := D) (ci := 3) (v := .int v_126) (C := RX4) (T := TX4) (N := 6) hx hb hts in4 hown hK (va_one at_139) 0 rfl rfl 3 (by decide) (hts (.fieldLink RX4 21 "RiverModel$Model" "many" "I") (List.mem_of_getElem? (i := 1) rfl)) (fun _ h9 => h9) rfl dX4_add_99 ?_
          refine lv_iconst (v := 1) hx hb dX4_add_102 (by decide) ?_
          refine lv_iadd hx hb dX4_add_103 ?_
          refine lv_topi (fun x_143 e_144 => ?_)
          refine ty_put (D := D) (ci := 3) (v := .int x_143) (ty := .int) (C := RX4) (T := TX4) (N := 6) (F2 := (gF cI cL cC gC gE G gW gA)) hx hb hts in4 tyX4 tyX4_ok nmX4 hown hK hG hS at_139 (by rw [k_a0]; rfl) rfl 3 (by decide) (hts (.fieldLink RX4 21 "RiverModel$Model" "many" "I") (List.mem_of_getElem? (i := 1) rfl)) (fun _ h9 => h9) rfl (by decide +kernel) rfl rfl (Nat.le_of_ble_eq_true rfl) (by rw [k_a0]; exact ⟨r_120, r_122, r_124, x_143, x_137, v_128, rfl, h_121, h_123, h_125, (by omega)⟩) tFF dX4_add_104 (fun H locs hG hS at_145 o_146 => ?_)
          have at_145 : va_at D vwCl (a0, .inr (3, [.ref r_120, .ref r_122, .ref r_124, .int x_143, .int x_137, .int v_128])) H := at_145
          have at_17 := va_at.keptK at_17 o_146 k_a0 k_a1 rfl
          exact ty_vret hx hb hr hlk hG hS True.intro dX4_add_107
        · skip
          have c_142 : x_19.toInt = 103 := q_eq c_142
          refine lv_aload_n hx hb dX4_add_66 rfl (lv_at hl 0 rfl) ?_
          refine va_get (D := D) (ci := 3) (v := .int v_128) (C := RX4) (T := TX4) (N := 6) hx hb hts in4 hown hK (va_one at_139) 0 rfl rfl 5 (by decide) (hts (.fieldLink RX4 28 "RiverModel$Model" "gates" "I") (List.mem_of_getElem? (i := 6) rfl)) (fun _ h9 => h9) rfl dX4_add_67 ?_
          refine lv_iconst (v := 4) hx hb dX4_add_70 (by decide) ?_
          refine lv_pc (pc2 := 71) rfl ?_
          refine lv_icmp_ge (tgt := 97) hx hb dX4_add_71 (by decide) (fun c_147 => ?_) (fun c_147 => ?_)
          · skip
            have c_147 : 4 ≤ v_128.toInt := q_le c_147
            refine lv_aload_n hx hb dX4_add_97 rfl (lv_at hl 0 rfl) ?_
            refine lv_dup hx hb dX4_add_98 rfl ?_
            refine va_get (D := D) (ci := 3) (v := .int v_126) (C := RX4) (T := TX4) (N := 6) hx hb hts in4 hown hK (va_one at_139) 0 rfl rfl 3 (by decide) (hts (.fieldLink RX4 21 "RiverModel$Model" "many" "I") (List.mem_of_getElem? (i := 1) rfl)) (fun _ h9 => h9) rfl dX4_add_99 ?_
            refine lv_iconst (v := 1) hx hb dX4_add_102 (by decide) ?_
            refine lv_iadd hx hb dX4_add_103 ?_
            refine lv_topi (fun x_148 e_149 => ?_)
            refine ty_put (D := D) (ci := 3) (v := .int x_148) (ty := .int) (C := RX4) (T := TX4) (N := 6) (F2 := (gF cI cL cC gC gE G gW gA)) hx hb hts in4 tyX4 tyX4_ok nmX4 hown hK hG hS at_139 (by rw [k_a0]; rfl) rfl 3 (by decide) (hts (.fieldLink RX4 21 "RiverModel$Model" "many" "I") (List.mem_of_getElem? (i := 1) rfl)) (fun _ h9 => h9) rfl (by decide +kernel) rfl rfl (Nat.le_of_ble_eq_true rfl) (by rw [k_a0]; exact ⟨r_120, r_122, r_124, x_148, x_137, v_128, rfl, h_121, h_123, h_125, (by omega)⟩) tFF dX4_add_104 (fun H locs hG hS at_150 o_151 => ?_)
            have at_150 : va_at D vwCl (a0, .inr (3, [.ref r_120, .ref r_122, .ref r_124, .int x_148, .int x_137, .int v_128])) H := at_150
            have at_17 := va_at.keptK at_17 o_151 k_a0 k_a1 rfl
            exact ty_vret hx hb hr hlk hG hS True.intro dX4_add_107
          · skip
            have c_147 : v_128.toInt < 4 := q_nle c_147
            refine lv_pc (pc2 := 74) rfl ?_
            refine lv_aload_n hx hb dX4_add_74 rfl (lv_at hl 0 rfl) ?_
            refine va_get (D := D) (ci := 3) (v := .ref r_124) (C := RX4) (T := TX4) (N := 6) hx hb hts in4 hown hK (va_one at_139) 0 rfl rfl 2 (by decide) (hts (.fieldLink RX4 18 "RiverModel$Model" "gateItems" "[I") (List.mem_of_getElem? (i := 7) rfl)) (fun _ h9 => h9) rfl dX4_add_75 ?_
            refine lv_aload_n hx hb dX4_add_78 rfl (lv_at hl 0 rfl) ?_
            refine va_get (D := D) (ci := 3) (v := .int v_128) (C := RX4) (T := TX4) (N := 6) hx hb hts in4 hown hK (va_one at_139) 0 rfl rfl 5 (by decide) (hts (.fieldLink RX4 28 "RiverModel$Model" "gates" "I") (List.mem_of_getElem? (i := 6) rfl)) (fun _ h9 => h9) rfl dX4_add_79 ?_
            refine lv_aload_n hx hb dX4_add_82 rfl (lv_at hl 0 rfl) ?_
            refine va_get (D := D) (ci := 3) (v := .int v_126) (C := RX4) (T := TX4) (N := 6) hx hb hts in4 hown hK (va_one at_139) 0 rfl rfl 3 (by decide) (hts (.fieldLink RX4 21 "RiverModel$Model" "many" "I") (List.mem_of_getElem? (i := 1) rfl)) (fun _ h9 => h9) rfl dX4_add_83 ?_
            obtain ⟨f_152, at_153⟩ := gF_o14 hG h_125
            have b_154 : vp_in v_128 4 := (q_in (by omega) (by omega))
            refine ty_iast (F2 := (gF cI cL cC gC gE G gW gA)) hx hb hK hG hS 0 at_153 (by rw [h_125]; rfl) rfl b_154 (by rw [h_125]; exact ⟨_, rfl⟩) tFF dX4_add_86 (fun H locs hG hS at_155 o_156 => ?_)
            have at_17 := va_at.keptK at_17 o_156 h_125 k_a1 rfl
            have at_139 := va_at.keptK at_139 o_156 h_125 k_a0 rfl
            refine lv_aload_n hx hb dX4_add_87 rfl (lv_at hl 0 rfl) ?_
            refine lv_pc (pc2 := 88) rfl ?_
            refine lv_dup hx hb dX4_add_88 rfl ?_
            refine va_get (D := D) (ci := 3) (v := .int v_128) (C := RX4) (T := TX4) (N := 6) hx hb hts in4 hown hK (va_one at_139) 0 rfl rfl 5 (by decide) (hts (.fieldLink RX4 28 "RiverModel$Model" "gates" "I") (List.mem_of_getElem? (i := 6) rfl)) (fun _ h9 => h9) rfl dX4_add_89 ?_
            refine lv_iconst (v := 1) hx hb dX4_add_92 (by decide) ?_
            refine lv_iadd hx hb dX4_add_93 ?_
            refine lv_topi (fun x_157 e_158 => ?_)
            have i_x_157 : x_157.toInt = v_128.toInt + 1 := by rw [e_158]; exact (q_add (by rw [show (1 : Int32).toInt = 1 by decide]; omega) (by rw [show (1 : Int32).toInt = 1 by decide]; omega)).trans (by rw [show (1 : Int32).toInt = 1 by decide])
            refine ty_put (D := D) (ci := 3) (v := .int x_157) (ty := .int) (C := RX4) (T := TX4) (N := 6) (F2 := (gF cI cL cC gC gE G gW gA)) hx hb hts in4 tyX4 tyX4_ok nmX4 hown hK hG hS at_139 (by rw [k_a0]; rfl) rfl 5 (by decide) (hts (.fieldLink RX4 28 "RiverModel$Model" "gates" "I") (List.mem_of_getElem? (i := 6) rfl)) (fun _ h9 => h9) rfl (by decide +kernel) rfl rfl (Nat.le_of_ble_eq_true rfl) (by rw [k_a0]; exact ⟨r_120, r_122, r_124, v_126, x_137, x_157, rfl, h_121, h_123, h_125, (by omega)⟩) tFF dX4_add_94 (fun H locs hG hS at_159 o_160 => ?_)
            have at_159 : va_at D vwCl (a0, .inr (3, [.ref r_120, .ref r_122, .ref r_124, .int v_126, .int x_137, .int x_157])) H := at_159
            have at_17 := va_at.keptK at_17 o_160 k_a0 k_a1 rfl
            refine lv_aload_n hx hb dX4_add_97 rfl (lv_at hl 0 rfl) ?_
            refine lv_dup hx hb dX4_add_98 rfl ?_
            refine va_get (D := D) (ci := 3) (v := .int v_126) (C := RX4) (T := TX4) (N := 6) hx hb hts in4 hown hK (va_one at_159) 0 rfl rfl 3 (by decide) (hts (.fieldLink RX4 21 "RiverModel$Model" "many" "I") (List.mem_of_getElem? (i := 1) rfl)) (fun _ h9 => h9) rfl dX4_add_99 ?_
            refine lv_pc (pc2 := 102) rfl ?_
            refine lv_iconst (v := 1) hx hb dX4_add_102 (by decide) ?_
            refine lv_iadd hx hb dX4_add_103 ?_
            refine lv_topi (fun x_161 e_162 => ?_)
            refine ty_put (D := D) (ci := 3) (v := .int x_161) (ty := .int) (C := RX4) (T := TX4) (N := 6) (F2 := (gF cI cL cC gC gE G gW gA)) hx hb hts in4 tyX4 tyX4_ok nmX4 hown hK hG hS at_159 (by rw [k_a0]; rfl) rfl 3 (by decide) (hts (.fieldLink RX4 21 "RiverModel$Model" "many" "I") (List.mem_of_getElem? (i := 1) rfl)) (fun _ h9 => h9) rfl (by decide +kernel) rfl rfl (Nat.le_of_ble_eq_true rfl) (by rw [k_a0]; exact ⟨r_120, r_122, r_124, x_161, x_137, x_157, rfl, h_121, h_123, h_125, (by omega)⟩) tFF dX4_add_104 (fun H locs hG hS at_163 o_164 => ?_)
            have at_163 : va_at D vwCl (a0, .inr (3, [.ref r_120, .ref r_122, .ref r_124, .int x_161, .int x_137, .int x_157])) H := at_163
            have at_17 := va_at.keptK at_17 o_164 k_a0 k_a1 rfl
            exact ty_vret hx hb hr hlk hG hS True.intro dX4_add_107
  · skip
    have c_12 : 40 ≤ v_7.toInt := q_nlt c_12
    exact ty_vret hx hb hr hlk hG hS True.intro dX4_add_9

def uX4_hasStore : List Cond := .code yX4_hasStore cX4_hasStore 2 (some .boolean) :: ([.fieldLink RX4 15 "RiverModel$Model" "storeItems" "[I"] ++ wsX40)
set_option maxHeartbeats 4000000 in
set_option maxRecDepth 100000 in
theorem s_X4_hasStore (l : Launch) (D : va_G) (t : Nat → Nat) (cI cL cC : ClassId) (gC : Int32) (gE : Int32) (G : Nat) (gW : Nat → Int32) (gA : Nat → Int32) (a0 : Nat) (a1 : Int32) (k_a0 : t a0 = 3) : tM l yX4_hasStore uX4_hasStore 0 0 D (gF cI cL cC gC gE G gW gA) (gF cI cL cC gC gE G gW gA) t cI cL cC [.ref a0, .int a1] wr0 (pI (fun r => (r = 1 ∧ 0 ≤ a1.toInt ∧ a1.toInt ≤ 15) ∨ (r = 0 ∧ True))) := by
  refine tM.ofW (cc := cX4_hasStore) (maxL := 2) (ret := (some .boolean)) (by decide) rfl (Nat.le_of_ble_eq_true rfl) ?_
  intro p e s m below meth c hx hb hr hml hown hts hlk H locs hG hK hE hS ls hl
  have hl : lv_has ls 2 [(0, .ref a0), (1, .int a1)] := hl
  have in4 : ∀ w ∈ wsX40, w ∈ uX4_hasStore := fun w h => List.mem_cons_of_mem _ (List.mem_append_right _ h)
  refine lv_iload_n hx hb dX4_hasStore_0 rfl (lv_at hl 1 rfl) ?_
  refine lv_if_lt (tgt := 25) hx hb dX4_hasStore_1 (by decide) (fun c_1 => ?_) (fun c_1 => ?_)
  · skip
    have c_1 : a1.toInt < 0 := q_lt c_1
    refine lv_iconst (v := 0) hx hb dX4_hasStore_25 (by decide) ?_
    exact ty_zret hx hb hr hlk rfl hG hS (Or.inr ⟨rfl, trivial⟩) dX4_hasStore_26
  · skip
    have c_1 : 0 ≤ a1.toInt := q_nlt c_1
    refine lv_iload_n hx hb dX4_hasStore_4 rfl (lv_at hl 1 rfl) ?_
    refine lv_bipush (v := 16) hx hb dX4_hasStore_5 (by decide) ?_
    refine lv_icmp_ge (tgt := 25) hx hb dX4_hasStore_7 (by decide) (fun c_2 => ?_) (fun c_2 => ?_)
    · skip
      have c_2 : 16 ≤ a1.toInt := q_le c_2
      refine lv_pc (pc2 := 25) rfl ?_
      refine lv_iconst (v := 0) hx hb dX4_hasStore_25 (by decide) ?_
      exact ty_zret hx hb hr hlk rfl hG hS (Or.inr ⟨rfl, trivial⟩) dX4_hasStore_26
    · skip
      have c_2 : a1.toInt < 16 := q_nle c_2
      refine lv_aload_n hx hb dX4_hasStore_10 rfl (lv_at hl 0 rfl) ?_
      obtain ⟨r_3, r_5, r_7, v_9, v_10, v_11, at_13, h_4, h_6, h_8, h_12⟩ := gF_o3 hG k_a0
      refine va_get (D := D) (ci := 3) (v := .ref r_5) (C := RX4) (T := TX4) (N := 6) hx hb hts in4 hown hK (va_one at_13) 0 rfl rfl 1 (by decide) (hts (.fieldLink RX4 15 "RiverModel$Model" "storeItems" "[I") (List.mem_of_getElem? (i := 1) rfl)) (fun _ h9 => h9) rfl dX4_hasStore_11 ?_
      refine lv_iload_n hx hb dX4_hasStore_14 rfl (lv_at hl 1 rfl) ?_
      obtain ⟨f_14, at_15⟩ := gF_o13 hG h_6
      have b_16 : vp_in a1 16 := (q_in (by omega) (by omega))
      refine va_iald hx hb hK (va_one at_15) 0 0 rfl rfl b_16 dX4_hasStore_15 ?_
      refine lv_topi (fun x_17 e_18 => ?_)
      refine lv_bipush (v := (-4)) hx hb dX4_hasStore_16 (by decide) ?_
      refine lv_icmp_eq (tgt := 25) hx hb dX4_hasStore_18 (by decide) (fun c_19 => ?_) (fun c_19 => ?_)
      · skip
        have c_19 : x_17.toInt = (-4) := q_eq c_19
        refine lv_pc (pc2 := 25) rfl ?_
        refine lv_iconst (v := 0) hx hb dX4_hasStore_25 (by decide) ?_
        exact ty_zret hx hb hr hlk rfl hG hS (Or.inr ⟨rfl, trivial⟩) dX4_hasStore_26
      · skip
        have c_19 : x_17.toInt ≠ (-4) := q_ne c_19
        refine lv_iconst (v := 1) hx hb dX4_hasStore_21 (by decide) ?_
        refine lv_goto (tgt := 26) hx hb dX4_hasStore_22 (by decide) ?_
        exact ty_zret hx hb hr hlk rfl hG hS (Or.inl ⟨rfl, by omega, by omega⟩) dX4_hasStore_26

def uX4_isStoreAhead : List Cond := .code yX4_isStoreAhead cX4_isStoreAhead 3 (some .boolean) :: ([.methodLink RX4 66 yX4_hasStore, .instanceMethod yX4_hasStore, .selects RX4 yX4_hasStore yX4_hasStore, .initialized RX4, .fieldLink RX4 15 "RiverModel$Model" "storeItems" "[I", .code yX4_hasStore cX4_hasStore 2 (some .boolean)] ++ wsX40)
set_option maxRecDepth 20000 in
theorem gu_X4_isStoreAhead_X4_hasStore_66 : GoodIn uX4_isStoreAhead (wsV RX4 66 RX4 yX4_hasStore uX4_hasStore) := goodIn_r _ [1, 2, 3, 4, 6, 5, 7, 8, 9, 10, 11, 12] rfl (by decide +kernel)
set_option maxHeartbeats 4000000 in
set_option maxRecDepth 100000 in
theorem s_X4_isStoreAhead (l : Launch) (D : va_G) (t : Nat → Nat) (cI cL cC : ClassId) (gC : Int32) (gE : Int32) (G : Nat) (gW : Nat → Int32) (gA : Nat → Int32) (a0 : Nat) (a1 : Int32) (a2 : Int32) (k_a0 : t a0 = 3) : tM l yX4_isStoreAhead uX4_isStoreAhead 1 21 D (gF cI cL cC gC gE G gW gA) (gF cI cL cC gC gE G gW gA) t cI cL cC [.ref a0, .int a1, .int a2] wr0 (pI (fun r => r = 0 ∨ r = 1)) := by
  refine tM.ofW (cc := cX4_isStoreAhead) (maxL := 3) (ret := (some .boolean)) (by decide) rfl (Nat.le_of_ble_eq_true rfl) ?_
  intro p e s m below meth c hx hb hr hml hown hts hlk H locs hG hK hE hS ls hl
  have hl : lv_has ls 3 [(0, .ref a0), (1, .int a1), (2, .int a2)] := hl
  have in4 : ∀ w ∈ wsX40, w ∈ uX4_isStoreAhead := fun w h => List.mem_cons_of_mem _ (List.mem_append_right _ h)
  refine lv_aload_n hx hb dX4_isStoreAhead_0 rfl (lv_at hl 0 rfl) ?_
  refine lv_iload_n hx hb dX4_isStoreAhead_1 rfl (lv_at hl 1 rfl) ?_
  obtain ⟨r_1, r_3, r_5, v_7, v_8, v_9, at_11, h_2, h_4, h_6, h_10⟩ := gF_o3 hG k_a0
  refine ty_calli ((W.runV (As := [.int a1]) (rest := []) ⟨hx, hb, hml, hown, hts⟩ (s_X4_hasStore l D t cI cL cC gC gE G gW gA a0 a1 k_a0) (cwV 1 hts gu_X4_isStoreAhead_X4_hasStore_66 rfl rfl rfl (by decide +kernel) ⟨Nat.le_of_ble_eq_true rfl, Nat.le_of_ble_eq_true rfl⟩) (tP_V hG hE at_11 rfl) rfl rfl hl.1 rfl (lv_room (Nat.le_of_ble_eq_true rfl)) dX4_isStoreAhead_2 ⟨Nat.le_of_ble_eq_true rfl, Nat.le_of_ble_eq_true rfl⟩)) hS (fun _ h => h) (fun r_12 H locs hp_13 hG hS o_14 => ?_)
  have at_11 := va_at.keptC at_11 o_14 k_a0 rfl
  rcases hp_13 with ⟨rfl, hc_22, hc_23⟩ | ⟨rfl, _⟩
  · skip
    refine lv_if_eq (tgt := 22) hx hb dX4_isStoreAhead_5 (by decide) (fun q => absurd q (by decide)) (fun _ => ?_)
    refine lv_aload_n hx hb dX4_isStoreAhead_8 rfl (lv_at hl 0 rfl) ?_
    refine va_get (D := D) (ci := 3) (v := .ref r_3) (C := RX4) (T := TX4) (N := 6) hx hb hts in4 hown hK (va_one at_11) 0 rfl rfl 1 (by decide) (hts (.fieldLink RX4 15 "RiverModel$Model" "storeItems" "[I") (List.mem_of_getElem? (i := 5) rfl)) (fun _ h9 => h9) rfl dX4_isStoreAhead_9 ?_
    refine lv_iload_n hx hb dX4_isStoreAhead_12 rfl (lv_at hl 1 rfl) ?_
    refine lv_pc (pc2 := 13) rfl ?_
    obtain ⟨f_15, at_16⟩ := gF_o13 hG h_4
    have b_17 : vp_in a1 16 := (q_in (by omega) (by omega))
    refine va_iald hx hb hK (va_one at_16) 0 0 rfl rfl b_17 dX4_isStoreAhead_13 ?_
    refine lv_topi (fun x_18 e_19 => ?_)
    refine lv_iload_n hx hb dX4_isStoreAhead_14 rfl (lv_at hl 2 rfl) ?_
    refine lv_icmp_ge (tgt := 22) hx hb dX4_isStoreAhead_15 (by decide) (fun c_20 => ?_) (fun c_20 => ?_)
    · skip
      have c_20 : a2.toInt ≤ x_18.toInt := q_le c_20
      refine lv_iconst (v := 0) hx hb dX4_isStoreAhead_22 (by decide) ?_
      exact ty_zret hx hb hr hlk rfl hG hS (by decide) dX4_isStoreAhead_23
    · skip
      have c_20 : x_18.toInt < a2.toInt := q_nle c_20
      refine lv_iconst (v := 1) hx hb dX4_isStoreAhead_18 (by decide) ?_
      refine lv_goto (tgt := 23) hx hb dX4_isStoreAhead_19 (by decide) ?_
      exact ty_zret hx hb hr hlk rfl hG hS (by decide) dX4_isStoreAhead_23
  · skip
    refine lv_pc (pc2 := 5) rfl ?_
    refine lv_if_eq (tgt := 22) hx hb dX4_isStoreAhead_5 (by decide) (fun _ => ?_) (fun q => absurd (by decide) q)
    refine lv_iconst (v := 0) hx hb dX4_isStoreAhead_22 (by decide) ?_
    exact ty_zret hx hb hr hlk rfl hG hS (by decide) dX4_isStoreAhead_23

def uX4_areNamesAhead : List Cond := .code yX4_areNamesAhead cX4_areNamesAhead 5 (some .boolean) :: ([.methodLink RX4 82 yX4_isStoreAhead, .instanceMethod yX4_isStoreAhead, .selects RX4 yX4_isStoreAhead yX4_isStoreAhead, .initialized RX4, .code yX4_isStoreAhead cX4_isStoreAhead 3 (some .boolean), .methodLink RX4 66 yX4_hasStore, .instanceMethod yX4_hasStore, .selects RX4 yX4_hasStore yX4_hasStore, .fieldLink RX4 15 "RiverModel$Model" "storeItems" "[I", .code yX4_hasStore cX4_hasStore 2 (some .boolean)] ++ wsX40)
set_option maxRecDepth 20000 in
theorem gu_X4_areNamesAhead_X4_isStoreAhead_82 : GoodIn uX4_areNamesAhead (wsV RX4 82 RX4 yX4_isStoreAhead uX4_isStoreAhead) := goodIn_r _ [1, 2, 3, 4, 5, 6, 7, 8, 4, 9, 10, 11, 12, 13, 14, 15, 16] rfl (by decide +kernel)
set_option maxHeartbeats 4000000 in
set_option maxRecDepth 100000 in
theorem s_X4_areNamesAhead (l : Launch) (D : va_G) (t : Nat → Nat) (cI cL cC : ClassId) (gC : Int32) (gE : Int32) (G : Nat) (gW : Nat → Int32) (gA : Nat → Int32) (a0 : Nat) (a1 : Nat) (a2 : Int32) (k_a0 : t a0 = 3) (k_a1 : t a1 = 11) : tM l yX4_areNamesAhead uX4_areNamesAhead 2 43 D (gF cI cL cC gC gE G gW gA) (gF cI cL cC gC gE G gW gA) t cI cL cC [.ref a0, .ref a1, .int a2] wr0 (pI (fun r => r = 0 ∨ r = 1)) := by
  refine tM.ofW (cc := cX4_areNamesAhead) (maxL := 5) (ret := (some .boolean)) (by decide) rfl (Nat.le_of_ble_eq_true rfl) ?_
  intro p e s m below meth c hx hb hr hml hown hts hlk H locs hG hK hE hS ls hl
  have hl : lv_has ls 5 [(0, .ref a0), (1, .ref a1), (2, .int a2)] := hl
  skip
  refine lv_aload_n hx hb dX4_areNamesAhead_0 rfl (lv_at hl 1 rfl) ?_
  refine lv_iconst (v := 1) hx hb dX4_areNamesAhead_1 (by decide) ?_
  obtain ⟨f_1, at_2⟩ := gF_o11 hG k_a1
  have b_3 : vp_in 1 6 := (q_in (by decide) (by decide))
  refine va_iald hx hb hK (va_one at_2) 0 0 rfl rfl b_3 dX4_areNamesAhead_2 ?_
  refine lv_topi (fun x_4 e_5 => ?_)
  refine lv_istore_n (lv' := [(3, .int x_4), (0, .ref a0), (1, .ref a1), (2, .int a2)]) hx hb dX4_areNamesAhead_3 rfl hl (by decide) rfl (fun ls hl => ?_)
  refine lv_aload_n hx hb dX4_areNamesAhead_4 rfl (lv_at hl 2 rfl) ?_
  refine lv_iconst (v := 2) hx hb dX4_areNamesAhead_5 (by decide) ?_
  have b_6 : vp_in 2 6 := (q_in (by decide) (by decide))
  refine va_iald hx hb hK (va_one at_2) 0 0 rfl rfl b_6 dX4_areNamesAhead_6 ?_
  refine lv_topi (fun x_7 e_8 => ?_)
  refine lv_pc (pc2 := 7) rfl ?_
  refine lv_istore (lv' := [(4, .int x_7), (3, .int x_4), (0, .ref a0), (1, .ref a1), (2, .int a2)]) hx hb dX4_areNamesAhead_7 hl (by decide) rfl (fun ls hl => ?_)
  refine lv_aload_n hx hb dX4_areNamesAhead_9 rfl (lv_at hl 2 rfl) ?_
  refine lv_iload_n hx hb dX4_areNamesAhead_10 rfl (lv_at hl 1 rfl) ?_
  refine lv_iload_n hx hb dX4_areNamesAhead_11 rfl (lv_at hl 4 rfl) ?_
  obtain ⟨r_9, r_11, r_13, v_15, v_16, v_17, at_19, h_10, h_12, h_14, h_18⟩ := gF_o3 hG k_a0
  refine ty_calli ((W.runV (As := [.int x_4, .int a2]) (rest := []) ⟨hx, hb, hml, hown, hts⟩ (s_X4_isStoreAhead l D t cI cL cC gC gE G gW gA a0 x_4 a2 k_a0) (cwV 2 hts gu_X4_areNamesAhead_X4_isStoreAhead_82 rfl rfl rfl (by decide +kernel) ⟨Nat.le_of_ble_eq_true rfl, Nat.le_of_ble_eq_true rfl⟩) (tP_V hG hE at_19 rfl) rfl rfl hl.1 rfl (lv_room (Nat.le_of_ble_eq_true rfl)) dX4_areNamesAhead_12 ⟨Nat.le_of_ble_eq_true rfl, Nat.le_of_ble_eq_true rfl⟩)) hS (fun _ h => h) (fun r_20 H locs hp_21 hG hS o_22 => ?_)
  have at_2 := va_at.keptC at_2 o_22 k_a1 rfl
  have at_19 := va_at.keptC at_19 o_22 k_a0 rfl
  rcases hp_21 with rfl | rfl
  · skip
    refine lv_if_eq (tgt := 45) hx hb dX4_areNamesAhead_15 (by decide) (fun _ => ?_) (fun q => absurd (by decide) q)
    refine lv_iconst (v := 0) hx hb dX4_areNamesAhead_45 (by decide) ?_
    exact ty_zret hx hb hr hlk rfl hG hS (by decide) dX4_areNamesAhead_46
  · skip
    refine lv_pc (pc2 := 15) rfl ?_
    refine lv_if_eq (tgt := 45) hx hb dX4_areNamesAhead_15 (by decide) (fun q => absurd q (by decide)) (fun _ => ?_)
    refine lv_iload hx hb dX4_areNamesAhead_18 (lv_at hl 0 rfl) ?_
    refine lv_bipush (v := (-4)) hx hb dX4_areNamesAhead_20 (by decide) ?_
    refine lv_icmp_eq (tgt := 41) hx hb dX4_areNamesAhead_22 (by decide) (fun c_23 => ?_) (fun c_23 => ?_)
    · skip
      have c_23 : x_7.toInt = (-4) := q_eq c_23
      refine lv_iconst (v := 1) hx hb dX4_areNamesAhead_41 (by decide) ?_
      refine lv_goto (tgt := 46) hx hb dX4_areNamesAhead_42 (by decide) ?_
      exact ty_zret hx hb hr hlk rfl hG hS (by decide) dX4_areNamesAhead_46
    · skip
      have c_23 : x_7.toInt ≠ (-4) := q_ne c_23
      refine lv_iload hx hb dX4_areNamesAhead_25 (lv_at hl 0 rfl) ?_
      refine lv_pc (pc2 := 27) rfl ?_
      refine lv_iload_n hx hb dX4_areNamesAhead_27 rfl (lv_at hl 1 rfl) ?_
      refine lv_icmp_eq (tgt := 45) hx hb dX4_areNamesAhead_28 (by decide) (fun c_24 => ?_) (fun c_24 => ?_)
      · skip
        have c_24 : x_7.toInt = x_4.toInt := q_eq c_24
        refine lv_iconst (v := 0) hx hb dX4_areNamesAhead_45 (by decide) ?_
        exact ty_zret hx hb hr hlk rfl hG hS (by decide) dX4_areNamesAhead_46
      · skip
        have c_24 : x_7.toInt ≠ x_4.toInt := q_ne c_24
        refine lv_aload_n hx hb dX4_areNamesAhead_31 rfl (lv_at hl 2 rfl) ?_
        refine lv_iload hx hb dX4_areNamesAhead_32 (lv_at hl 0 rfl) ?_
        refine lv_iload_n hx hb dX4_areNamesAhead_34 rfl (lv_at hl 4 rfl) ?_
        refine ty_calli ((W.runV (As := [.int x_7, .int a2]) (rest := []) ⟨hx, hb, hml, hown, hts⟩ (s_X4_isStoreAhead l D t cI cL cC gC gE G gW gA a0 x_7 a2 k_a0) (cwV 2 hts gu_X4_areNamesAhead_X4_isStoreAhead_82 rfl rfl rfl (by decide +kernel) ⟨Nat.le_of_ble_eq_true rfl, Nat.le_of_ble_eq_true rfl⟩) (tP_V hG hE at_19 rfl) rfl rfl hl.1 rfl (lv_room (Nat.le_of_ble_eq_true rfl)) dX4_areNamesAhead_35 ⟨Nat.le_of_ble_eq_true rfl, Nat.le_of_ble_eq_true rfl⟩)) hS (fun _ h => h) (fun r_25 H locs hp_26 hG hS o_27 => ?_)
        have at_2 := va_at.keptC at_2 o_27 k_a1 rfl
        have at_19 := va_at.keptC at_19 o_27 k_a0 rfl
        rcases hp_26 with rfl | rfl
        · skip
          refine lv_pc (pc2 := 38) rfl ?_
          refine lv_if_eq (tgt := 45) hx hb dX4_areNamesAhead_38 (by decide) (fun _ => ?_) (fun q => absurd (by decide) q)
          refine lv_iconst (v := 0) hx hb dX4_areNamesAhead_45 (by decide) ?_
          exact ty_zret hx hb hr hlk rfl hG hS (by decide) dX4_areNamesAhead_46
        · skip
          refine lv_if_eq (tgt := 45) hx hb dX4_areNamesAhead_38 (by decide) (fun q => absurd q (by decide)) (fun _ => ?_)
          refine lv_iconst (v := 1) hx hb dX4_areNamesAhead_41 (by decide) ?_
          refine lv_goto (tgt := 46) hx hb dX4_areNamesAhead_42 (by decide) ?_
          exact ty_zret hx hb hr hlk rfl hG hS (by decide) dX4_areNamesAhead_46

def uX4_areNumbersAsTold : List Cond := .code yX4_areNumbersAsTold cX4_areNumbersAsTold 1 (some .boolean) :: ([.methodLink RX4 77 yX2_areNumbersAsTold, .static yX2_areNumbersAsTold, .initialized RX2, .code yX2_areNumbersAsTold cX2_areNumbersAsTold 4 (some .boolean), .methodLink RX2 10 yX2_isUpTo, .static yX2_isUpTo, .constant RX2 9 (1000000), .code yX2_isUpTo cX2_isUpTo 2 (some .boolean)])
set_option maxRecDepth 20000 in
theorem gu_X4_areNumbersAsTold_X2_areNumbersAsTold_77 : GoodIn uX4_areNumbersAsTold (va_wsS RX4 77 yX2_areNumbersAsTold uX2_areNumbersAsTold) := goodIn_r _ [1, 2, 3, 4, 5, 6, 3, 7, 8] rfl (by decide +kernel)
set_option maxHeartbeats 4000000 in
set_option maxRecDepth 100000 in
theorem s_X4_areNumbersAsTold (l : Launch) (D : va_G) (t : Nat → Nat) (cI cL cC : ClassId) (gC : Int32) (gE : Int32) (G : Nat) (gW : Nat → Int32) (gA : Nat → Int32) (a0 : Nat) (k_a0 : t a0 = 11) : tM l yX4_areNumbersAsTold uX4_areNumbersAsTold 2 44 D (gF cI cL cC gC gE G gW gA) (gF cI cL cC gC gE G gW gA) t cI cL cC [.ref a0] wr0 (pI (fun r => r = 0 ∨ r = 1)) := by
  refine tM.ofW (cc := cX4_areNumbersAsTold) (maxL := 1) (ret := (some .boolean)) (by decide) rfl (Nat.le_of_ble_eq_true rfl) ?_
  intro p e s m below meth c hx hb hr hml hown hts hlk H locs hG hK hE hS ls hl
  have hl : lv_has ls 1 [(0, .ref a0)] := hl
  skip
  refine lv_aload_n hx hb dX4_areNumbersAsTold_0 rfl (lv_at hl 0 rfl) ?_
  refine lv_iconst (v := 0) hx hb dX4_areNumbersAsTold_1 (by decide) ?_
  obtain ⟨f_1, at_2⟩ := gF_o11 hG k_a0
  have b_3 : vp_in 0 6 := (q_in (by decide) (by decide))
  refine va_iald hx hb hK (va_one at_2) 0 0 rfl rfl b_3 dX4_areNumbersAsTold_2 ?_
  refine lv_topi (fun x_4 e_5 => ?_)
  refine lv_aload_n hx hb dX4_areNumbersAsTold_3 rfl (lv_at hl 0 rfl) ?_
  refine lv_iconst (v := 3) hx hb dX4_areNumbersAsTold_4 (by decide) ?_
  have b_6 : vp_in 3 6 := (q_in (by decide) (by decide))
  refine va_iald hx hb hK (va_one at_2) 0 0 rfl rfl b_6 dX4_areNumbersAsTold_5 ?_
  refine lv_topi (fun x_7 e_8 => ?_)
  refine lv_aload_n hx hb dX4_areNumbersAsTold_6 rfl (lv_at hl 0 rfl) ?_
  refine lv_pc (pc2 := 7) rfl ?_
  refine lv_iconst (v := 4) hx hb dX4_areNumbersAsTold_7 (by decide) ?_
  have b_9 : vp_in 4 6 := (q_in (by decide) (by decide))
  refine va_iald hx hb hK (va_one at_2) 0 0 rfl rfl b_9 dX4_areNumbersAsTold_8 ?_
  refine lv_topi (fun x_10 e_11 => ?_)
  refine lv_aload_n hx hb dX4_areNumbersAsTold_9 rfl (lv_at hl 0 rfl) ?_
  refine lv_iconst (v := 5) hx hb dX4_areNumbersAsTold_10 (by decide) ?_
  have b_12 : vp_in 5 6 := (q_in (by decide) (by decide))
  refine va_iald hx hb hK (va_one at_2) 0 0 rfl rfl b_12 dX4_areNumbersAsTold_11 ?_
  refine lv_topi (fun x_13 e_14 => ?_)
  refine ty_calli ((W.runS (As := [.int x_4, .int x_7, .int x_10, .int x_13]) (rest := []) ⟨hx, hb, hml, hown, hts⟩ (s_X2_areNumbersAsTold l D t cI cL cC gC gE G gW gA x_4 x_7 x_10 x_13 ) (va_cwS 4 hts gu_X4_areNumbersAsTold_X2_areNumbersAsTold_77 rfl rfl rfl (by decide +kernel) ⟨Nat.le_of_ble_eq_true rfl, Nat.le_of_ble_eq_true rfl⟩) (tP_S hG hE) rfl rfl hl.1 rfl (lv_room (Nat.le_of_ble_eq_true rfl)) dX4_areNumbersAsTold_12 ⟨Nat.le_of_ble_eq_true rfl, Nat.le_of_ble_eq_true rfl⟩)) hS (fun _ h => h) (fun r_15 H locs hp_16 hG hS o_17 => ?_)
  have at_2 := va_at.keptC at_2 o_17 k_a0 rfl
  rcases hp_16 with rfl | rfl
  · skip
    exact ty_zret hx hb hr hlk rfl hG hS (by decide) dX4_areNumbersAsTold_15
  · skip
    exact ty_zret hx hb hr hlk rfl hG hS (by decide) dX4_areNumbersAsTold_15

def uX4_mayFollow : List Cond := .code yX4_mayFollow cX4_mayFollow 2 (some .boolean) :: ([.methodLink RX4 62 yX4_areNumbersAsTold, .static yX4_areNumbersAsTold, .initialized RX4, .fieldLink RX4 21 "RiverModel$Model" "many" "I", .methodLink RX4 69 yX4_areNamesAhead, .instanceMethod yX4_areNamesAhead, .selects RX4 yX4_areNamesAhead yX4_areNamesAhead, .fieldLink RX4 28 "RiverModel$Model" "gates" "I", .methodLink RX4 66 yX4_hasStore, .instanceMethod yX4_hasStore, .selects RX4 yX4_hasStore yX4_hasStore, .code yX4_areNumbersAsTold cX4_areNumbersAsTold 1 (some .boolean), .methodLink RX4 77 yX2_areNumbersAsTold, .static yX2_areNumbersAsTold, .initialized RX2, .code yX2_areNumbersAsTold cX2_areNumbersAsTold 4 (some .boolean), .methodLink RX2 10 yX2_isUpTo, .static yX2_isUpTo, .constant RX2 9 (1000000), .code yX2_isUpTo cX2_isUpTo 2 (some .boolean), .code yX4_areNamesAhead cX4_areNamesAhead 5 (some .boolean), .methodLink RX4 82 yX4_isStoreAhead, .instanceMethod yX4_isStoreAhead, .selects RX4 yX4_isStoreAhead yX4_isStoreAhead, .code yX4_isStoreAhead cX4_isStoreAhead 3 (some .boolean), .fieldLink RX4 15 "RiverModel$Model" "storeItems" "[I", .code yX4_hasStore cX4_hasStore 2 (some .boolean)] ++ wsX40)
set_option maxRecDepth 20000 in
theorem gu_X4_mayFollow_X4_areNumbersAsTold_62 : GoodIn uX4_mayFollow (va_wsS RX4 62 yX4_areNumbersAsTold uX4_areNumbersAsTold) := goodIn_r _ [1, 2, 3, 12, 13, 14, 15, 16, 17, 18, 19, 20] rfl (by decide +kernel)
set_option maxRecDepth 20000 in
theorem gu_X4_mayFollow_X4_areNamesAhead_69 : GoodIn uX4_mayFollow (wsV RX4 69 RX4 yX4_areNamesAhead uX4_areNamesAhead) := goodIn_r _ [5, 6, 7, 3, 21, 22, 23, 24, 3, 25, 9, 10, 11, 26, 27, 28, 29, 30, 31, 32, 33] rfl (by decide +kernel)
set_option maxRecDepth 20000 in
theorem gu_X4_mayFollow_X4_hasStore_66 : GoodIn uX4_mayFollow (wsV RX4 66 RX4 yX4_hasStore uX4_hasStore) := goodIn_r _ [9, 10, 11, 3, 27, 26, 28, 29, 30, 31, 32, 33] rfl (by decide +kernel)
set_option maxHeartbeats 4000000 in
set_option maxRecDepth 100000 in
theorem s_X4_mayFollow (l : Launch) (D : va_G) (t : Nat → Nat) (cI cL cC : ClassId) (gC : Int32) (gE : Int32) (G : Nat) (gW : Nat → Int32) (gA : Nat → Int32) (a0 : Nat) (a1 : Nat) (k_a0 : t a0 = 3) (k_a1 : t a1 = 11) : tM l yX4_mayFollow uX4_mayFollow 3 67 D (gF cI cL cC gC gE G gW gA) (gF cI cL cC gC gE G gW gA) t cI cL cC [.ref a0, .ref a1] wr0 (pI (fun r => r = 0 ∨ r = 1)) := by
  refine tM.ofW (cc := cX4_mayFollow) (maxL := 2) (ret := (some .boolean)) (by decide) rfl (Nat.le_of_ble_eq_true rfl) ?_
  intro p e s m below meth c hx hb hr hml hown hts hlk H locs hG hK hE hS ls hl
  have hl : lv_has ls 2 [(0, .ref a0), (1, .ref a1)] := hl
  have in4 : ∀ w ∈ wsX40, w ∈ uX4_mayFollow := fun w h => List.mem_cons_of_mem _ (List.mem_append_right _ h)
  refine lv_aload_n hx hb dX4_mayFollow_0 rfl (lv_at hl 1 rfl) ?_
  refine lv_iconst (v := 0) hx hb dX4_mayFollow_1 (by decide) ?_
  obtain ⟨f_1, at_2⟩ := gF_o11 hG k_a1
  have b_3 : vp_in 0 6 := (q_in (by decide) (by decide))
  refine va_iald hx hb hK (va_one at_2) 0 0 rfl rfl b_3 dX4_mayFollow_2 ?_
  refine lv_topi (fun x_4 e_5 => ?_)
  refine lv_bipush (v := 115) hx hb dX4_mayFollow_3 (by decide) ?_
  refine lv_icmp_ne (tgt := 31) hx hb dX4_mayFollow_5 (by decide) (fun c_6 => ?_) (fun c_6 => ?_)
  · skip
    have c_6 : x_4.toInt ≠ 115 := q_ne c_6
    refine lv_aload_n hx hb dX4_mayFollow_31 rfl (lv_at hl 1 rfl) ?_
    refine ty_calli ((W.runS (As := [.ref a1]) (rest := []) ⟨hx, hb, hml, hown, hts⟩ (s_X4_areNumbersAsTold l D t cI cL cC gC gE G gW gA a1 k_a1) (va_cwS 1 hts gu_X4_mayFollow_X4_areNumbersAsTold_62 rfl rfl rfl (by decide +kernel) ⟨Nat.le_of_ble_eq_true rfl, Nat.le_of_ble_eq_true rfl⟩) (tP_S hG hE) rfl rfl hl.1 rfl (lv_room (Nat.le_of_ble_eq_true rfl)) dX4_mayFollow_32 ⟨Nat.le_of_ble_eq_true rfl, Nat.le_of_ble_eq_true rfl⟩)) hS (fun _ h => h) (fun r_7 H locs hp_8 hG hS o_9 => ?_)
    have at_2 := va_at.keptC at_2 o_9 k_a1 rfl
    rcases hp_8 with rfl | rfl
    · skip
      refine lv_pc (pc2 := 35) rfl ?_
      refine lv_if_eq (tgt := 70) hx hb dX4_mayFollow_35 (by decide) (fun _ => ?_) (fun q => absurd (by decide) q)
      refine lv_iconst (v := 0) hx hb dX4_mayFollow_70 (by decide) ?_
      exact ty_zret hx hb hr hlk rfl hG hS (by decide) dX4_mayFollow_71
    · skip
      refine lv_if_eq (tgt := 70) hx hb dX4_mayFollow_35 (by decide) (fun q => absurd q (by decide)) (fun _ => ?_)
      refine lv_aload_n hx hb dX4_mayFollow_38 rfl (lv_at hl 0 rfl) ?_
      refine lv_aload_n hx hb dX4_mayFollow_39 rfl (lv_at hl 1 rfl) ?_
      refine lv_aload_n hx hb dX4_mayFollow_40 rfl (lv_at hl 0 rfl) ?_
      obtain ⟨r_10, r_12, r_14, v_16, v_17, v_18, at_20, h_11, h_13, h_15, h_19⟩ := gF_o3 hG k_a0
      refine va_get (D := D) (ci := 3) (v := .int v_16) (C := RX4) (T := TX4) (N := 6) hx hb hts in4 hown hK (va_one at_20) 0 rfl rfl 3 (by decide) (hts (.fieldLink RX4 21 "RiverModel$Model" "many" "I") (List.mem_of_getElem? (i := 4) rfl)) (fun _ h9 => h9) rfl dX4_mayFollow_41 ?_
      refine lv_pc (pc2 := 44) rfl ?_
      refine ty_calli ((W.runV (As := [.ref a1, .int v_16]) (rest := []) ⟨hx, hb, hml, hown, hts⟩ (s_X4_areNamesAhead l D t cI cL cC gC gE G gW gA a0 a1 v_16 k_a0 k_a1) (cwV 2 hts gu_X4_mayFollow_X4_areNamesAhead_69 rfl rfl rfl (by decide +kernel) ⟨Nat.le_of_ble_eq_true rfl, Nat.le_of_ble_eq_true rfl⟩) (tP_V hG hE at_20 rfl) rfl rfl hl.1 rfl (lv_room (Nat.le_of_ble_eq_true rfl)) dX4_mayFollow_44 ⟨Nat.le_of_ble_eq_true rfl, Nat.le_of_ble_eq_true rfl⟩)) hS (fun _ h => h) (fun r_21 H locs hp_22 hG hS o_23 => ?_)
      have at_2 := va_at.keptC at_2 o_23 k_a1 rfl
      have at_20 := va_at.keptC at_20 o_23 k_a0 rfl
      rcases hp_22 with rfl | rfl
      · skip
        refine lv_if_eq (tgt := 70) hx hb dX4_mayFollow_47 (by decide) (fun _ => ?_) (fun q => absurd (by decide) q)
        refine lv_iconst (v := 0) hx hb dX4_mayFollow_70 (by decide) ?_
        exact ty_zret hx hb hr hlk rfl hG hS (by decide) dX4_mayFollow_71
      · skip
        refine lv_if_eq (tgt := 70) hx hb dX4_mayFollow_47 (by decide) (fun q => absurd q (by decide)) (fun _ => ?_)
        refine lv_aload_n hx hb dX4_mayFollow_50 rfl (lv_at hl 1 rfl) ?_
        refine lv_iconst (v := 0) hx hb dX4_mayFollow_51 (by decide) ?_
        have b_24 : vp_in 0 6 := (q_in (by decide) (by decide))
        refine va_iald hx hb hK (va_one at_2) 0 0 rfl rfl b_24 dX4_mayFollow_52 ?_
        refine lv_seti (y := x_4) e_5.symm ?_
        refine lv_pc (pc2 := 53) rfl ?_
        refine lv_bipush (v := 103) hx hb dX4_mayFollow_53 (by decide) ?_
        refine lv_icmp_ne (tgt := 66) hx hb dX4_mayFollow_55 (by decide) (fun c_25 => ?_) (fun c_25 => ?_)
        · skip
          have c_25 : x_4.toInt ≠ 103 := q_ne c_25
          refine lv_iconst (v := 1) hx hb dX4_mayFollow_66 (by decide) ?_
          refine lv_goto (tgt := 71) hx hb dX4_mayFollow_67 (by decide) ?_
          exact ty_zret hx hb hr hlk rfl hG hS (by decide) dX4_mayFollow_71
        · skip
          have c_25 : x_4.toInt = 103 := q_eq c_25
          refine lv_aload_n hx hb dX4_mayFollow_58 rfl (lv_at hl 0 rfl) ?_
          refine va_get (D := D) (ci := 3) (v := .int v_18) (C := RX4) (T := TX4) (N := 6) hx hb hts in4 hown hK (va_one at_20) 0 rfl rfl 5 (by decide) (hts (.fieldLink RX4 28 "RiverModel$Model" "gates" "I") (List.mem_of_getElem? (i := 8) rfl)) (fun _ h9 => h9) rfl dX4_mayFollow_59 ?_
          refine lv_iconst (v := 4) hx hb dX4_mayFollow_62 (by decide) ?_
          refine lv_pc (pc2 := 63) rfl ?_
          refine lv_icmp_ge (tgt := 70) hx hb dX4_mayFollow_63 (by decide) (fun c_26 => ?_) (fun c_26 => ?_)
          · skip
            have c_26 : 4 ≤ v_18.toInt := q_le c_26
            refine lv_iconst (v := 0) hx hb dX4_mayFollow_70 (by decide) ?_
            exact ty_zret hx hb hr hlk rfl hG hS (by decide) dX4_mayFollow_71
          · skip
            have c_26 : v_18.toInt < 4 := q_nle c_26
            refine lv_iconst (v := 1) hx hb dX4_mayFollow_66 (by decide) ?_
            refine lv_goto (tgt := 71) hx hb dX4_mayFollow_67 (by decide) ?_
            exact ty_zret hx hb hr hlk rfl hG hS (by decide) dX4_mayFollow_71
  · skip
    have c_6 : x_4.toInt = 115 := q_eq c_6
    refine lv_aload_n hx hb dX4_mayFollow_8 rfl (lv_at hl 1 rfl) ?_
    refine ty_calli ((W.runS (As := [.ref a1]) (rest := []) ⟨hx, hb, hml, hown, hts⟩ (s_X4_areNumbersAsTold l D t cI cL cC gC gE G gW gA a1 k_a1) (va_cwS 1 hts gu_X4_mayFollow_X4_areNumbersAsTold_62 rfl rfl rfl (by decide +kernel) ⟨Nat.le_of_ble_eq_true rfl, Nat.le_of_ble_eq_true rfl⟩) (tP_S hG hE) rfl rfl hl.1 rfl (lv_room (Nat.le_of_ble_eq_true rfl)) dX4_mayFollow_9 ⟨Nat.le_of_ble_eq_true rfl, Nat.le_of_ble_eq_true rfl⟩)) hS (fun _ h => h) (fun r_27 H locs hp_28 hG hS o_29 => ?_)
    have at_2 := va_at.keptC at_2 o_29 k_a1 rfl
    rcases hp_28 with rfl | rfl
    · skip
      refine lv_pc (pc2 := 12) rfl ?_
      refine lv_if_eq (tgt := 29) hx hb dX4_mayFollow_12 (by decide) (fun _ => ?_) (fun q => absurd (by decide) q)
      refine lv_iconst (v := 0) hx hb dX4_mayFollow_29 (by decide) ?_
      exact ty_zret hx hb hr hlk rfl hG hS (by decide) dX4_mayFollow_30
    · skip
      refine lv_if_eq (tgt := 29) hx hb dX4_mayFollow_12 (by decide) (fun q => absurd q (by decide)) (fun _ => ?_)
      refine lv_aload_n hx hb dX4_mayFollow_15 rfl (lv_at hl 0 rfl) ?_
      refine lv_aload_n hx hb dX4_mayFollow_16 rfl (lv_at hl 1 rfl) ?_
      refine lv_iconst (v := 1) hx hb dX4_mayFollow_17 (by decide) ?_
      have b_30 : vp_in 1 6 := (q_in (by decide) (by decide))
      refine va_iald hx hb hK (va_one at_2) 0 0 rfl rfl b_30 dX4_mayFollow_18 ?_
      refine lv_topi (fun x_31 e_32 => ?_)
      refine lv_pc (pc2 := 19) rfl ?_
      obtain ⟨r_33, r_35, r_37, v_39, v_40, v_41, at_43, h_34, h_36, h_38, h_42⟩ := gF_o3 hG k_a0
      refine ty_calli ((W.runV (As := [.int x_31]) (rest := []) ⟨hx, hb, hml, hown, hts⟩ (s_X4_hasStore l D t cI cL cC gC gE G gW gA a0 x_31 k_a0) (cwV 1 hts gu_X4_mayFollow_X4_hasStore_66 rfl rfl rfl (by decide +kernel) ⟨Nat.le_of_ble_eq_true rfl, Nat.le_of_ble_eq_true rfl⟩) (tP_V hG hE at_43 rfl) rfl rfl hl.1 rfl (lv_room (Nat.le_of_ble_eq_true rfl)) dX4_mayFollow_19 ⟨Nat.le_of_ble_eq_true rfl, Nat.le_of_ble_eq_true rfl⟩)) hS (fun _ h => h) (fun r_44 H locs hp_45 hG hS o_46 => ?_)
      have at_2 := va_at.keptC at_2 o_46 k_a1 rfl
      have at_43 := va_at.keptC at_43 o_46 k_a0 rfl
      rcases hp_45 with ⟨rfl, hc_24, hc_25⟩ | ⟨rfl, _⟩
      · skip
        refine lv_if_ne (tgt := 29) hx hb dX4_mayFollow_22 (by decide) (fun _ => ?_) (fun q => absurd q (by decide))
        refine lv_iconst (v := 0) hx hb dX4_mayFollow_29 (by decide) ?_
        exact ty_zret hx hb hr hlk rfl hG hS (by decide) dX4_mayFollow_30
      · skip
        refine lv_if_ne (tgt := 29) hx hb dX4_mayFollow_22 (by decide) (fun q => absurd rfl q) (fun _ => ?_)
        refine lv_iconst (v := 1) hx hb dX4_mayFollow_25 (by decide) ?_
        refine lv_goto (tgt := 30) hx hb dX4_mayFollow_26 (by decide) ?_
        exact ty_zret hx hb hr hlk rfl hG hS (by decide) dX4_mayFollow_30

def uX4_mayReplace : List Cond := .code yX4_mayReplace cX4_mayReplace 4 (some .boolean) :: ([.methodLink RX4 73 yX4_cell, .instanceMethod yX4_cell, .selects RX4 yX4_cell yX4_cell, .initialized RX4, .methodLink RX4 62 yX4_areNumbersAsTold, .static yX4_areNumbersAsTold, .methodLink RX4 69 yX4_areNamesAhead, .instanceMethod yX4_areNamesAhead, .selects RX4 yX4_areNamesAhead yX4_areNamesAhead, .code yX4_cell cX4_cell 3 (some .int), .fieldLink RX4 9 "RiverModel$Model" "cells" "[I", .code yX4_areNumbersAsTold cX4_areNumbersAsTold 1 (some .boolean), .methodLink RX4 77 yX2_areNumbersAsTold, .static yX2_areNumbersAsTold, .initialized RX2, .code yX2_areNumbersAsTold cX2_areNumbersAsTold 4 (some .boolean), .methodLink RX2 10 yX2_isUpTo, .static yX2_isUpTo, .constant RX2 9 (1000000), .code yX2_isUpTo cX2_isUpTo 2 (some .boolean), .code yX4_areNamesAhead cX4_areNamesAhead 5 (some .boolean), .methodLink RX4 82 yX4_isStoreAhead, .instanceMethod yX4_isStoreAhead, .selects RX4 yX4_isStoreAhead yX4_isStoreAhead, .code yX4_isStoreAhead cX4_isStoreAhead 3 (some .boolean), .methodLink RX4 66 yX4_hasStore, .instanceMethod yX4_hasStore, .selects RX4 yX4_hasStore yX4_hasStore, .fieldLink RX4 15 "RiverModel$Model" "storeItems" "[I", .code yX4_hasStore cX4_hasStore 2 (some .boolean)] ++ wsX40)
set_option maxRecDepth 20000 in
theorem gu_X4_mayReplace_X4_cell_73 : GoodIn uX4_mayReplace (wsV RX4 73 RX4 yX4_cell uX4_cell) := goodIn_r _ [1, 2, 3, 4, 10, 11, 31, 32, 33, 34, 35, 36] rfl (by decide +kernel)
set_option maxRecDepth 20000 in
theorem gu_X4_mayReplace_X4_areNumbersAsTold_62 : GoodIn uX4_mayReplace (va_wsS RX4 62 yX4_areNumbersAsTold uX4_areNumbersAsTold) := goodIn_r _ [5, 6, 4, 12, 13, 14, 15, 16, 17, 18, 19, 20] rfl (by decide +kernel)
set_option maxRecDepth 20000 in
theorem gu_X4_mayReplace_X4_areNamesAhead_69 : GoodIn uX4_mayReplace (wsV RX4 69 RX4 yX4_areNamesAhead uX4_areNamesAhead) := goodIn_r _ [7, 8, 9, 4, 21, 22, 23, 24, 4, 25, 26, 27, 28, 29, 30, 31, 32, 33, 34, 35, 36] rfl (by decide +kernel)
set_option maxHeartbeats 4000000 in
set_option maxRecDepth 100000 in
theorem s_X4_mayReplace (l : Launch) (D : va_G) (t : Nat → Nat) (cI cL cC : ClassId) (gC : Int32) (gE : Int32) (G : Nat) (gW : Nat → Int32) (gA : Nat → Int32) (a0 : Nat) (a1 : Int32) (a2 : Nat) (k_a0 : t a0 = 3) (k_a2 : t a2 = 11) : tM l yX4_mayReplace uX4_mayReplace 3 67 D (gF cI cL cC gC gE G gW gA) (gF cI cL cC gC gE G gW gA) t cI cL cC [.ref a0, .int a1, .ref a2] wr0 (pI (fun r => r = 0 ∨ r = 1)) := by
  refine tM.ofW (cc := cX4_mayReplace) (maxL := 4) (ret := (some .boolean)) (by decide) rfl (Nat.le_of_ble_eq_true rfl) ?_
  intro p e s m below meth c hx hb hr hml hown hts hlk H locs hG hK hE hS ls hl
  have hl : lv_has ls 4 [(0, .ref a0), (1, .int a1), (2, .ref a2)] := hl
  skip
  refine lv_aload_n hx hb dX4_mayReplace_0 rfl (lv_at hl 0 rfl) ?_
  refine lv_iload_n hx hb dX4_mayReplace_1 rfl (lv_at hl 1 rfl) ?_
  refine lv_iconst (v := 0) hx hb dX4_mayReplace_2 (by decide) ?_
  obtain ⟨r_1, r_3, r_5, v_7, v_8, v_9, at_11, h_2, h_4, h_6, h_10⟩ := gF_o3 hG k_a0
  refine ty_calli ((W.runV (As := [.int a1, .int 0]) (rest := []) ⟨hx, hb, hml, hown, hts⟩ (s_X4_cell l D t cI cL cC gC gE G gW gA a0 a1 0 k_a0) (cwV 2 hts gu_X4_mayReplace_X4_cell_73 rfl rfl rfl (by decide +kernel) ⟨Nat.le_of_ble_eq_true rfl, Nat.le_of_ble_eq_true rfl⟩) (tP_V hG hE at_11 rfl) rfl rfl hl.1 rfl (lv_room (Nat.le_of_ble_eq_true rfl)) dX4_mayReplace_3 ⟨Nat.le_of_ble_eq_true rfl, Nat.le_of_ble_eq_true rfl⟩)) hS (fun _ h => h) (fun r_12 H locs hp_13 hG hS o_14 => ?_)
  have at_11 := va_at.keptC at_11 o_14 k_a0 rfl
  refine lv_istore_n (lv' := [(3, .int r_12), (0, .ref a0), (1, .int a1), (2, .ref a2)]) hx hb dX4_mayReplace_6 rfl hl (by decide) rfl (fun ls hl => ?_)
  refine lv_iload_n hx hb dX4_mayReplace_7 rfl (lv_at hl 0 rfl) ?_
  refine lv_bipush (v := 115) hx hb dX4_mayReplace_8 (by decide) ?_
  refine lv_pc (pc2 := 10) rfl ?_
  refine lv_icmp_eq (tgt := 21) hx hb dX4_mayReplace_10 (by decide) (fun c_15 => ?_) (fun c_15 => ?_)
  · skip
    have c_15 : r_12.toInt = 115 := q_eq c_15
    refine lv_aload_n hx hb dX4_mayReplace_21 rfl (lv_at hl 3 rfl) ?_
    refine ty_calli ((W.runS (As := [.ref a2]) (rest := []) ⟨hx, hb, hml, hown, hts⟩ (s_X4_areNumbersAsTold l D t cI cL cC gC gE G gW gA a2 k_a2) (va_cwS 1 hts gu_X4_mayReplace_X4_areNumbersAsTold_62 rfl rfl rfl (by decide +kernel) ⟨Nat.le_of_ble_eq_true rfl, Nat.le_of_ble_eq_true rfl⟩) (tP_S hG hE) rfl rfl hl.1 rfl (lv_room (Nat.le_of_ble_eq_true rfl)) dX4_mayReplace_22 ⟨Nat.le_of_ble_eq_true rfl, Nat.le_of_ble_eq_true rfl⟩)) hS (fun _ h => h) (fun r_16 H locs hp_17 hG hS o_18 => ?_)
    have at_11 := va_at.keptC at_11 o_18 k_a0 rfl
    rcases hp_17 with rfl | rfl
    · skip
      refine lv_if_eq (tgt := 51) hx hb dX4_mayReplace_25 (by decide) (fun _ => ?_) (fun q => absurd (by decide) q)
      refine lv_iconst (v := 0) hx hb dX4_mayReplace_51 (by decide) ?_
      exact ty_zret hx hb hr hlk rfl hG hS (by decide) dX4_mayReplace_52
    · skip
      refine lv_if_eq (tgt := 51) hx hb dX4_mayReplace_25 (by decide) (fun q => absurd q (by decide)) (fun _ => ?_)
      refine lv_iload_n hx hb dX4_mayReplace_28 rfl (lv_at hl 0 rfl) ?_
      refine lv_pc (pc2 := 29) rfl ?_
      refine lv_aload_n hx hb dX4_mayReplace_29 rfl (lv_at hl 3 rfl) ?_
      refine lv_iconst (v := 0) hx hb dX4_mayReplace_30 (by decide) ?_
      obtain ⟨f_19, at_20⟩ := gF_o11 hG k_a2
      have b_21 : vp_in 0 6 := (q_in (by decide) (by decide))
      refine va_iald hx hb hK (va_one at_20) 0 0 rfl rfl b_21 dX4_mayReplace_31 ?_
      refine lv_topi (fun x_22 e_23 => ?_)
      refine lv_icmp_ne (tgt := 51) hx hb dX4_mayReplace_32 (by decide) (fun c_24 => ?_) (fun c_24 => ?_)
      · skip
        have c_24 : r_12.toInt ≠ x_22.toInt := q_ne c_24
        refine lv_iconst (v := 0) hx hb dX4_mayReplace_51 (by decide) ?_
        exact ty_zret hx hb hr hlk rfl hG hS (by decide) dX4_mayReplace_52
      · skip
        have c_24 : r_12.toInt = x_22.toInt := q_eq c_24
        refine lv_aload_n hx hb dX4_mayReplace_35 rfl (lv_at hl 1 rfl) ?_
        refine lv_iload_n hx hb dX4_mayReplace_36 rfl (lv_at hl 2 rfl) ?_
        refine lv_pc (pc2 := 37) rfl ?_
        refine lv_iconst (v := 1) hx hb dX4_mayReplace_37 (by decide) ?_
        refine ty_calli ((W.runV (As := [.int a1, .int 1]) (rest := []) ⟨hx, hb, hml, hown, hts⟩ (s_X4_cell l D t cI cL cC gC gE G gW gA a0 a1 1 k_a0) (cwV 2 hts gu_X4_mayReplace_X4_cell_73 rfl rfl rfl (by decide +kernel) ⟨Nat.le_of_ble_eq_true rfl, Nat.le_of_ble_eq_true rfl⟩) (tP_V hG hE at_11 rfl) rfl rfl hl.1 rfl (lv_room (Nat.le_of_ble_eq_true rfl)) dX4_mayReplace_38 ⟨Nat.le_of_ble_eq_true rfl, Nat.le_of_ble_eq_true rfl⟩)) hS (fun _ h => h) (fun r_25 H locs hp_26 hG hS o_27 => ?_)
        have at_11 := va_at.keptC at_11 o_27 k_a0 rfl
        have at_20 := va_at.keptC at_20 o_27 k_a2 rfl
        refine lv_aload_n hx hb dX4_mayReplace_41 rfl (lv_at hl 3 rfl) ?_
        refine lv_iconst (v := 1) hx hb dX4_mayReplace_42 (by decide) ?_
        have b_28 : vp_in 1 6 := (q_in (by decide) (by decide))
        refine va_iald hx hb hK (va_one at_20) 0 0 rfl rfl b_28 dX4_mayReplace_43 ?_
        refine lv_topi (fun x_29 e_30 => ?_)
        refine lv_icmp_ne (tgt := 51) hx hb dX4_mayReplace_44 (by decide) (fun c_31 => ?_) (fun c_31 => ?_)
        · skip
          have c_31 : r_25.toInt ≠ x_29.toInt := q_ne c_31
          refine lv_iconst (v := 0) hx hb dX4_mayReplace_51 (by decide) ?_
          exact ty_zret hx hb hr hlk rfl hG hS (by decide) dX4_mayReplace_52
        · skip
          have c_31 : r_25.toInt = x_29.toInt := q_eq c_31
          refine lv_pc (pc2 := 47) rfl ?_
          refine lv_iconst (v := 1) hx hb dX4_mayReplace_47 (by decide) ?_
          refine lv_goto (tgt := 52) hx hb dX4_mayReplace_48 (by decide) ?_
          exact ty_zret hx hb hr hlk rfl hG hS (by decide) dX4_mayReplace_52
  · skip
    have c_15 : r_12.toInt ≠ 115 := q_ne c_15
    refine lv_aload_n hx hb dX4_mayReplace_13 rfl (lv_at hl 3 rfl) ?_
    refine lv_iconst (v := 0) hx hb dX4_mayReplace_14 (by decide) ?_
    obtain ⟨f_32, at_33⟩ := gF_o11 hG k_a2
    have b_34 : vp_in 0 6 := (q_in (by decide) (by decide))
    refine va_iald hx hb hK (va_one at_33) 0 0 rfl rfl b_34 dX4_mayReplace_15 ?_
    refine lv_topi (fun x_35 e_36 => ?_)
    refine lv_bipush (v := 115) hx hb dX4_mayReplace_16 (by decide) ?_
    refine lv_icmp_ne (tgt := 53) hx hb dX4_mayReplace_18 (by decide) (fun c_37 => ?_) (fun c_37 => ?_)
    · skip
      have c_37 : x_35.toInt ≠ 115 := q_ne c_37
      refine lv_pc (pc2 := 53) rfl ?_
      refine lv_aload_n hx hb dX4_mayReplace_53 rfl (lv_at hl 3 rfl) ?_
      refine ty_calli ((W.runS (As := [.ref a2]) (rest := []) ⟨hx, hb, hml, hown, hts⟩ (s_X4_areNumbersAsTold l D t cI cL cC gC gE G gW gA a2 k_a2) (va_cwS 1 hts gu_X4_mayReplace_X4_areNumbersAsTold_62 rfl rfl rfl (by decide +kernel) ⟨Nat.le_of_ble_eq_true rfl, Nat.le_of_ble_eq_true rfl⟩) (tP_S hG hE) rfl rfl hl.1 rfl (lv_room (Nat.le_of_ble_eq_true rfl)) dX4_mayReplace_54 ⟨Nat.le_of_ble_eq_true rfl, Nat.le_of_ble_eq_true rfl⟩)) hS (fun _ h => h) (fun r_38 H locs hp_39 hG hS o_40 => ?_)
      have at_11 := va_at.keptC at_11 o_40 k_a0 rfl
      have at_33 := va_at.keptC at_33 o_40 k_a2 rfl
      rcases hp_39 with rfl | rfl
      · skip
        refine lv_if_eq (tgt := 100) hx hb dX4_mayReplace_57 (by decide) (fun _ => ?_) (fun q => absurd (by decide) q)
        refine lv_iconst (v := 0) hx hb dX4_mayReplace_100 (by decide) ?_
        exact ty_zret hx hb hr hlk rfl hG hS (by decide) dX4_mayReplace_101
      · skip
        refine lv_if_eq (tgt := 100) hx hb dX4_mayReplace_57 (by decide) (fun q => absurd q (by decide)) (fun _ => ?_)
        refine lv_aload_n hx hb dX4_mayReplace_60 rfl (lv_at hl 1 rfl) ?_
        refine lv_aload_n hx hb dX4_mayReplace_61 rfl (lv_at hl 3 rfl) ?_
        refine lv_pc (pc2 := 62) rfl ?_
        refine lv_iload_n hx hb dX4_mayReplace_62 rfl (lv_at hl 2 rfl) ?_
        refine ty_calli ((W.runV (As := [.ref a2, .int a1]) (rest := []) ⟨hx, hb, hml, hown, hts⟩ (s_X4_areNamesAhead l D t cI cL cC gC gE G gW gA a0 a2 a1 k_a0 k_a2) (cwV 2 hts gu_X4_mayReplace_X4_areNamesAhead_69 rfl rfl rfl (by decide +kernel) ⟨Nat.le_of_ble_eq_true rfl, Nat.le_of_ble_eq_true rfl⟩) (tP_V hG hE at_11 rfl) rfl rfl hl.1 rfl (lv_room (Nat.le_of_ble_eq_true rfl)) dX4_mayReplace_63 ⟨Nat.le_of_ble_eq_true rfl, Nat.le_of_ble_eq_true rfl⟩)) hS (fun _ h => h) (fun r_41 H locs hp_42 hG hS o_43 => ?_)
        have at_11 := va_at.keptC at_11 o_43 k_a0 rfl
        have at_33 := va_at.keptC at_33 o_43 k_a2 rfl
        rcases hp_42 with rfl | rfl
        · skip
          refine lv_if_eq (tgt := 100) hx hb dX4_mayReplace_66 (by decide) (fun _ => ?_) (fun q => absurd (by decide) q)
          refine lv_iconst (v := 0) hx hb dX4_mayReplace_100 (by decide) ?_
          exact ty_zret hx hb hr hlk rfl hG hS (by decide) dX4_mayReplace_101
        · skip
          refine lv_if_eq (tgt := 100) hx hb dX4_mayReplace_66 (by decide) (fun q => absurd q (by decide)) (fun _ => ?_)
          refine lv_iload_n hx hb dX4_mayReplace_69 rfl (lv_at hl 0 rfl) ?_
          refine lv_bipush (v := 103) hx hb dX4_mayReplace_70 (by decide) ?_
          refine lv_pc (pc2 := 72) rfl ?_
          refine lv_icmp_ne (tgt := 79) hx hb dX4_mayReplace_72 (by decide) (fun c_44 => ?_) (fun c_44 => ?_)
          · skip
            have c_44 : r_12.toInt ≠ 103 := q_ne c_44
            refine lv_iconst (v := 0) hx hb dX4_mayReplace_79 (by decide) ?_
            refine lv_aload_n hx hb dX4_mayReplace_80 rfl (lv_at hl 3 rfl) ?_
            refine lv_iconst (v := 0) hx hb dX4_mayReplace_81 (by decide) ?_
            have b_45 : vp_in 0 6 := (q_in (by decide) (by decide))
            refine va_iald hx hb hK (va_one at_33) 0 0 rfl rfl b_45 dX4_mayReplace_82 ?_
            refine lv_seti (y := x_35) e_36.symm ?_
            refine lv_bipush (v := 103) hx hb dX4_mayReplace_83 (by decide) ?_
            refine lv_icmp_ne (tgt := 92) hx hb dX4_mayReplace_85 (by decide) (fun c_46 => ?_) (fun c_46 => ?_)
            · skip
              have c_46 : x_35.toInt ≠ 103 := q_ne c_46
              refine lv_iconst (v := 0) hx hb dX4_mayReplace_92 (by decide) ?_
              refine lv_pc (pc2 := 93) rfl ?_
              refine lv_icmp_ne (tgt := 100) hx hb dX4_mayReplace_93 (by decide) (fun q => absurd rfl q) (fun _ => ?_)
              refine lv_iconst (v := 1) hx hb dX4_mayReplace_96 (by decide) ?_
              refine lv_goto (tgt := 101) hx hb dX4_mayReplace_97 (by decide) ?_
              exact ty_zret hx hb hr hlk rfl hG hS (by decide) dX4_mayReplace_101
            · skip
              have c_46 : x_35.toInt = 103 := q_eq c_46
              refine lv_iconst (v := 1) hx hb dX4_mayReplace_88 (by decide) ?_
              refine lv_goto (tgt := 93) hx hb dX4_mayReplace_89 (by decide) ?_
              refine lv_icmp_ne (tgt := 100) hx hb dX4_mayReplace_93 (by decide) (fun _ => ?_) (fun q => absurd q (by decide))
              refine lv_iconst (v := 0) hx hb dX4_mayReplace_100 (by decide) ?_
              refine lv_pc (pc2 := 101) rfl ?_
              exact ty_zret hx hb hr hlk rfl hG hS (by decide) dX4_mayReplace_101
          · skip
            have c_44 : r_12.toInt = 103 := q_eq c_44
            refine lv_iconst (v := 1) hx hb dX4_mayReplace_75 (by decide) ?_
            refine lv_goto (tgt := 80) hx hb dX4_mayReplace_76 (by decide) ?_
            refine lv_aload_n hx hb dX4_mayReplace_80 rfl (lv_at hl 3 rfl) ?_
            refine lv_iconst (v := 0) hx hb dX4_mayReplace_81 (by decide) ?_
            have b_47 : vp_in 0 6 := (q_in (by decide) (by decide))
            refine va_iald hx hb hK (va_one at_33) 0 0 rfl rfl b_47 dX4_mayReplace_82 ?_
            refine lv_seti (y := x_35) e_36.symm ?_
            refine lv_bipush (v := 103) hx hb dX4_mayReplace_83 (by decide) ?_
            refine lv_icmp_ne (tgt := 92) hx hb dX4_mayReplace_85 (by decide) (fun c_48 => ?_) (fun c_48 => ?_)
            · skip
              have c_48 : x_35.toInt ≠ 103 := q_ne c_48
              refine lv_pc (pc2 := 92) rfl ?_
              refine lv_iconst (v := 0) hx hb dX4_mayReplace_92 (by decide) ?_
              refine lv_icmp_ne (tgt := 100) hx hb dX4_mayReplace_93 (by decide) (fun _ => ?_) (fun q => absurd q (by decide))
              refine lv_iconst (v := 0) hx hb dX4_mayReplace_100 (by decide) ?_
              exact ty_zret hx hb hr hlk rfl hG hS (by decide) dX4_mayReplace_101
            · skip
              have c_48 : x_35.toInt = 103 := q_eq c_48
              refine lv_iconst (v := 1) hx hb dX4_mayReplace_88 (by decide) ?_
              refine lv_goto (tgt := 93) hx hb dX4_mayReplace_89 (by decide) ?_
              refine lv_icmp_ne (tgt := 100) hx hb dX4_mayReplace_93 (by decide) (fun q => absurd rfl q) (fun _ => ?_)
              refine lv_iconst (v := 1) hx hb dX4_mayReplace_96 (by decide) ?_
              refine lv_pc (pc2 := 97) rfl ?_
              refine lv_goto (tgt := 101) hx hb dX4_mayReplace_97 (by decide) ?_
              exact ty_zret hx hb hr hlk rfl hG hS (by decide) dX4_mayReplace_101
    · skip
      have c_37 : x_35.toInt = 115 := q_eq c_37
      refine lv_aload_n hx hb dX4_mayReplace_21 rfl (lv_at hl 3 rfl) ?_
      refine ty_calli ((W.runS (As := [.ref a2]) (rest := []) ⟨hx, hb, hml, hown, hts⟩ (s_X4_areNumbersAsTold l D t cI cL cC gC gE G gW gA a2 k_a2) (va_cwS 1 hts gu_X4_mayReplace_X4_areNumbersAsTold_62 rfl rfl rfl (by decide +kernel) ⟨Nat.le_of_ble_eq_true rfl, Nat.le_of_ble_eq_true rfl⟩) (tP_S hG hE) rfl rfl hl.1 rfl (lv_room (Nat.le_of_ble_eq_true rfl)) dX4_mayReplace_22 ⟨Nat.le_of_ble_eq_true rfl, Nat.le_of_ble_eq_true rfl⟩)) hS (fun _ h => h) (fun r_49 H locs hp_50 hG hS o_51 => ?_)
      have at_11 := va_at.keptC at_11 o_51 k_a0 rfl
      have at_33 := va_at.keptC at_33 o_51 k_a2 rfl
      rcases hp_50 with rfl | rfl
      · skip
        refine lv_if_eq (tgt := 51) hx hb dX4_mayReplace_25 (by decide) (fun _ => ?_) (fun q => absurd (by decide) q)
        refine lv_iconst (v := 0) hx hb dX4_mayReplace_51 (by decide) ?_
        exact ty_zret hx hb hr hlk rfl hG hS (by decide) dX4_mayReplace_52
      · skip
        refine lv_if_eq (tgt := 51) hx hb dX4_mayReplace_25 (by decide) (fun q => absurd q (by decide)) (fun _ => ?_)
        refine lv_pc (pc2 := 28) rfl ?_
        refine lv_iload_n hx hb dX4_mayReplace_28 rfl (lv_at hl 0 rfl) ?_
        refine lv_aload_n hx hb dX4_mayReplace_29 rfl (lv_at hl 3 rfl) ?_
        refine lv_iconst (v := 0) hx hb dX4_mayReplace_30 (by decide) ?_
        have b_52 : vp_in 0 6 := (q_in (by decide) (by decide))
        refine va_iald hx hb hK (va_one at_33) 0 0 rfl rfl b_52 dX4_mayReplace_31 ?_
        refine lv_seti (y := x_35) e_36.symm ?_
        refine lv_icmp_ne (tgt := 51) hx hb dX4_mayReplace_32 (by decide) (fun c_53 => ?_) (fun c_53 => ?_)
        · skip
          have c_53 : r_12.toInt ≠ x_35.toInt := q_ne c_53
          refine lv_iconst (v := 0) hx hb dX4_mayReplace_51 (by decide) ?_
          exact ty_zret hx hb hr hlk rfl hG hS (by decide) dX4_mayReplace_52
        · skip
          have c_53 : r_12.toInt = x_35.toInt := q_eq c_53
          refine lv_aload_n hx hb dX4_mayReplace_35 rfl (lv_at hl 1 rfl) ?_
          refine lv_pc (pc2 := 36) rfl ?_
          refine lv_iload_n hx hb dX4_mayReplace_36 rfl (lv_at hl 2 rfl) ?_
          refine lv_iconst (v := 1) hx hb dX4_mayReplace_37 (by decide) ?_
          refine ty_calli ((W.runV (As := [.int a1, .int 1]) (rest := []) ⟨hx, hb, hml, hown, hts⟩ (s_X4_cell l D t cI cL cC gC gE G gW gA a0 a1 1 k_a0) (cwV 2 hts gu_X4_mayReplace_X4_cell_73 rfl rfl rfl (by decide +kernel) ⟨Nat.le_of_ble_eq_true rfl, Nat.le_of_ble_eq_true rfl⟩) (tP_V hG hE at_11 rfl) rfl rfl hl.1 rfl (lv_room (Nat.le_of_ble_eq_true rfl)) dX4_mayReplace_38 ⟨Nat.le_of_ble_eq_true rfl, Nat.le_of_ble_eq_true rfl⟩)) hS (fun _ h => h) (fun r_54 H locs hp_55 hG hS o_56 => ?_)
          have at_11 := va_at.keptC at_11 o_56 k_a0 rfl
          have at_33 := va_at.keptC at_33 o_56 k_a2 rfl
          refine lv_aload_n hx hb dX4_mayReplace_41 rfl (lv_at hl 3 rfl) ?_
          refine lv_iconst (v := 1) hx hb dX4_mayReplace_42 (by decide) ?_
          have b_57 : vp_in 1 6 := (q_in (by decide) (by decide))
          refine va_iald hx hb hK (va_one at_33) 0 0 rfl rfl b_57 dX4_mayReplace_43 ?_
          refine lv_topi (fun x_58 e_59 => ?_)
          refine lv_icmp_ne (tgt := 51) hx hb dX4_mayReplace_44 (by decide) (fun c_60 => ?_) (fun c_60 => ?_)
          · skip
            have c_60 : r_54.toInt ≠ x_58.toInt := q_ne c_60
            refine lv_iconst (v := 0) hx hb dX4_mayReplace_51 (by decide) ?_
            refine lv_pc (pc2 := 52) rfl ?_
            exact ty_zret hx hb hr hlk rfl hG hS (by decide) dX4_mayReplace_52
          · skip
            have c_60 : r_54.toInt = x_58.toInt := q_eq c_60
            refine lv_iconst (v := 1) hx hb dX4_mayReplace_47 (by decide) ?_
            refine lv_goto (tgt := 52) hx hb dX4_mayReplace_48 (by decide) ?_
            exact ty_zret hx hb hr hlk rfl hG hS (by decide) dX4_mayReplace_52
