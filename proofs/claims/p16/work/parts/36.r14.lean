theorem dX10_swap_0 : decode cX10_swap 0 = .ok (.iload_n 1, 1) := by decide +kernel
theorem dX10_swap_1 : decode cX10_swap 1 = .ok (.i2l, 1) := by decide +kernel
theorem dX10_swap_2 : decode cX10_swap 2 = .ok (.lconst 0, 1) := by decide +kernel
theorem dX10_swap_3 : decode cX10_swap 3 = .ok (.ldc2_w 194, 3) := by decide +kernel
theorem dX10_swap_6 : decode cX10_swap 6 = .ok (.invokestatic 85, 3) := by decide +kernel
theorem dX10_swap_9 : decode cX10_swap 9 = .ok (.ifCond .ne 5, 3) := by decide +kernel
theorem dX10_swap_12 : decode cX10_swap 12 = .ok (.iconst (-1), 1) := by decide +kernel
theorem dX10_swap_13 : decode cX10_swap 13 = .ok (.ireturn, 1) := by decide +kernel
theorem dX10_swap_14 : decode cX10_swap 14 = .ok (.aload_n 0, 1) := by decide +kernel
theorem dX10_swap_15 : decode cX10_swap 15 = .ok (.getfield 173, 3) := by decide +kernel
theorem dX10_swap_18 : decode cX10_swap 18 = .ok (.ifCond .eq 11, 3) := by decide +kernel
theorem dX10_swap_21 : decode cX10_swap 21 = .ok (.iload_n 1, 1) := by decide +kernel
theorem dX10_swap_22 : decode cX10_swap 22 = .ok (.aload_n 0, 1) := by decide +kernel
theorem dX10_swap_23 : decode cX10_swap 23 = .ok (.getfield 163, 3) := by decide +kernel
theorem dX10_swap_26 : decode cX10_swap 26 = .ok (.if_icmp .lt 6, 3) := by decide +kernel
theorem dX10_swap_29 : decode cX10_swap 29 = .ok (.bipush (-2), 2) := by decide +kernel
theorem dX10_swap_31 : decode cX10_swap 31 = .ok (.ireturn, 1) := by decide +kernel
theorem dX10_swap_32 : decode cX10_swap 32 = .ok (.iconst 0, 1) := by decide +kernel
theorem dX10_swap_33 : decode cX10_swap 33 = .ok (.istore_n 2, 1) := by decide +kernel
theorem dX10_swap_34 : decode cX10_swap 34 = .ok (.iconst 0, 1) := by decide +kernel
theorem dX10_swap_35 : decode cX10_swap 35 = .ok (.istore_n 3, 1) := by decide +kernel
theorem dX10_swap_36 : decode cX10_swap 36 = .ok (.iload_n 3, 1) := by decide +kernel
theorem dX10_swap_37 : decode cX10_swap 37 = .ok (.iload_n 1, 1) := by decide +kernel
theorem dX10_swap_38 : decode cX10_swap 38 = .ok (.if_icmp .ge 35, 3) := by decide +kernel
theorem dX10_swap_41 : decode cX10_swap 41 = .ok (.iload_n 2, 1) := by decide +kernel
theorem dX10_swap_42 : decode cX10_swap 42 = .ok (.aload_n 0, 1) := by decide +kernel
theorem dX10_swap_43 : decode cX10_swap 43 = .ok (.getfield 13, 3) := by decide +kernel
theorem dX10_swap_46 : decode cX10_swap 46 = .ok (.iload_n 3, 1) := by decide +kernel
theorem dX10_swap_47 : decode cX10_swap 47 = .ok (.iaload, 1) := by decide +kernel
theorem dX10_swap_48 : decode cX10_swap 48 = .ok (.bipush 115, 2) := by decide +kernel
theorem dX10_swap_50 : decode cX10_swap 50 = .ok (.if_icmp .ne 14, 3) := by decide +kernel
theorem dX10_swap_53 : decode cX10_swap 53 = .ok (.iconst 1, 1) := by decide +kernel
theorem dX10_swap_54 : decode cX10_swap 54 = .ok (.aload_n 0, 1) := by decide +kernel
theorem dX10_swap_55 : decode cX10_swap 55 = .ok (.getfield 16, 3) := by decide +kernel
theorem dX10_swap_58 : decode cX10_swap 58 = .ok (.iload_n 3, 1) := by decide +kernel
theorem dX10_swap_59 : decode cX10_swap 59 = .ok (.iaload, 1) := by decide +kernel
theorem dX10_swap_60 : decode cX10_swap 60 = .ok (.ishl, 1) := by decide +kernel
theorem dX10_swap_61 : decode cX10_swap 61 = .ok (.goto 4, 3) := by decide +kernel
theorem dX10_swap_64 : decode cX10_swap 64 = .ok (.iconst 0, 1) := by decide +kernel
theorem dX10_swap_65 : decode cX10_swap 65 = .ok (.ior, 1) := by decide +kernel
theorem dX10_swap_66 : decode cX10_swap 66 = .ok (.istore_n 2, 1) := by decide +kernel
theorem dX10_swap_67 : decode cX10_swap 67 = .ok (.iinc 3 1, 3) := by decide +kernel
theorem dX10_swap_70 : decode cX10_swap 70 = .ok (.goto (-34), 3) := by decide +kernel
theorem dX10_swap_73 : decode cX10_swap 73 = .ok (.aload_n 0, 1) := by decide +kernel
theorem dX10_swap_74 : decode cX10_swap 74 = .ok (.getfield 13, 3) := by decide +kernel
theorem dX10_swap_77 : decode cX10_swap 77 = .ok (.iload_n 1, 1) := by decide +kernel
theorem dX10_swap_78 : decode cX10_swap 78 = .ok (.iaload, 1) := by decide +kernel
theorem dX10_swap_79 : decode cX10_swap 79 = .ok (.bipush 115, 2) := by decide +kernel
theorem dX10_swap_81 : decode cX10_swap 81 = .ok (.if_icmp .ne 7, 3) := by decide +kernel
theorem dX10_swap_84 : decode cX10_swap 84 = .ok (.iconst 1, 1) := by decide +kernel
theorem dX10_swap_85 : decode cX10_swap 85 = .ok (.goto 4, 3) := by decide +kernel
theorem dX10_swap_88 : decode cX10_swap 88 = .ok (.iconst 0, 1) := by decide +kernel
theorem dX10_swap_89 : decode cX10_swap 89 = .ok (.istore_n 3, 1) := by decide +kernel
theorem dX10_swap_90 : decode cX10_swap 90 = .ok (.aload_n 0, 1) := by decide +kernel
theorem dX10_swap_91 : decode cX10_swap 91 = .ok (.getfield 13, 3) := by decide +kernel
theorem dX10_swap_94 : decode cX10_swap 94 = .ok (.iload_n 1, 1) := by decide +kernel
theorem dX10_swap_95 : decode cX10_swap 95 = .ok (.iaload, 1) := by decide +kernel
theorem dX10_swap_96 : decode cX10_swap 96 = .ok (.bipush 103, 2) := by decide +kernel
theorem dX10_swap_98 : decode cX10_swap 98 = .ok (.if_icmp .ne 7, 3) := by decide +kernel
theorem dX10_swap_101 : decode cX10_swap 101 = .ok (.iconst 1, 1) := by decide +kernel
theorem dX10_swap_102 : decode cX10_swap 102 = .ok (.goto 4, 3) := by decide +kernel
theorem dX10_swap_105 : decode cX10_swap 105 = .ok (.iconst 0, 1) := by decide +kernel
theorem dX10_swap_106 : decode cX10_swap 106 = .ok (.istore 4, 2) := by decide +kernel
theorem dX10_swap_108 : decode cX10_swap 108 = .ok (.aload_n 0, 1) := by decide +kernel
theorem dX10_swap_109 : decode cX10_swap 109 = .ok (.iconst 0, 1) := by decide +kernel
theorem dX10_swap_110 : decode cX10_swap 110 = .ok (.iload_n 2, 1) := by decide +kernel
theorem dX10_swap_111 : decode cX10_swap 111 = .ok (.iconst 0, 1) := by decide +kernel
theorem dX10_swap_112 : decode cX10_swap 112 = .ok (.invokevirtual 151, 3) := by decide +kernel
theorem dX10_swap_115 : decode cX10_swap 115 = .ok (.ifCond .eq 68, 3) := by decide +kernel
theorem dX10_swap_118 : decode cX10_swap 118 = .ok (.aload_n 0, 1) := by decide +kernel
theorem dX10_swap_119 : decode cX10_swap 119 = .ok (.getfield 109, 3) := by decide +kernel
theorem dX10_swap_122 : decode cX10_swap 122 = .ok (.aload_n 0, 1) := by decide +kernel
theorem dX10_swap_123 : decode cX10_swap 123 = .ok (.getfield 89, 3) := by decide +kernel
theorem dX10_swap_126 : decode cX10_swap 126 = .ok (.if_icmp .ne 57, 3) := by decide +kernel
theorem dX10_swap_129 : decode cX10_swap 129 = .ok (.aload_n 0, 1) := by decide +kernel
theorem dX10_swap_130 : decode cX10_swap 130 = .ok (.getfield 125, 3) := by decide +kernel
theorem dX10_swap_133 : decode cX10_swap 133 = .ok (.bipush 115, 2) := by decide +kernel
theorem dX10_swap_135 : decode cX10_swap 135 = .ok (.if_icmp .ne 7, 3) := by decide +kernel
theorem dX10_swap_138 : decode cX10_swap 138 = .ok (.iconst 1, 1) := by decide +kernel
theorem dX10_swap_139 : decode cX10_swap 139 = .ok (.goto 4, 3) := by decide +kernel
theorem dX10_swap_142 : decode cX10_swap 142 = .ok (.iconst 0, 1) := by decide +kernel
theorem dX10_swap_143 : decode cX10_swap 143 = .ok (.iload_n 3, 1) := by decide +kernel
theorem dX10_swap_144 : decode cX10_swap 144 = .ok (.if_icmp .ne 39, 3) := by decide +kernel
theorem dX10_swap_147 : decode cX10_swap 147 = .ok (.aload_n 0, 1) := by decide +kernel
theorem dX10_swap_148 : decode cX10_swap 148 = .ok (.getfield 125, 3) := by decide +kernel
theorem dX10_swap_151 : decode cX10_swap 151 = .ok (.bipush 103, 2) := by decide +kernel
theorem dX10_swap_153 : decode cX10_swap 153 = .ok (.if_icmp .ne 7, 3) := by decide +kernel
theorem dX10_swap_156 : decode cX10_swap 156 = .ok (.iconst 1, 1) := by decide +kernel
theorem dX10_swap_157 : decode cX10_swap 157 = .ok (.goto 4, 3) := by decide +kernel
theorem dX10_swap_160 : decode cX10_swap 160 = .ok (.iconst 0, 1) := by decide +kernel
theorem dX10_swap_161 : decode cX10_swap 161 = .ok (.iload 4, 2) := by decide +kernel
theorem dX10_swap_163 : decode cX10_swap 163 = .ok (.if_icmp .ne 20, 3) := by decide +kernel
theorem dX10_swap_166 : decode cX10_swap 166 = .ok (.iload_n 3, 1) := by decide +kernel
theorem dX10_swap_167 : decode cX10_swap 167 = .ok (.ifCond .eq 19, 3) := by decide +kernel
theorem dX10_swap_170 : decode cX10_swap 170 = .ok (.aload_n 0, 1) := by decide +kernel
theorem dX10_swap_171 : decode cX10_swap 171 = .ok (.getfield 135, 3) := by decide +kernel
theorem dX10_swap_174 : decode cX10_swap 174 = .ok (.aload_n 0, 1) := by decide +kernel
theorem dX10_swap_175 : decode cX10_swap 175 = .ok (.getfield 16, 3) := by decide +kernel
theorem dX10_swap_178 : decode cX10_swap 178 = .ok (.iload_n 1, 1) := by decide +kernel
theorem dX10_swap_179 : decode cX10_swap 179 = .ok (.iaload, 1) := by decide +kernel
theorem dX10_swap_180 : decode cX10_swap 180 = .ok (.if_icmp .eq 6, 3) := by decide +kernel
theorem dX10_swap_183 : decode cX10_swap 183 = .ok (.bipush (-2), 2) := by decide +kernel
theorem dX10_swap_185 : decode cX10_swap 185 = .ok (.ireturn, 1) := by decide +kernel
theorem dX10_swap_186 : decode cX10_swap 186 = .ok (.aload_n 0, 1) := by decide +kernel
theorem dX10_swap_187 : decode cX10_swap 187 = .ok (.iconst 2, 1) := by decide +kernel
theorem dX10_swap_188 : decode cX10_swap 188 = .ok (.iconst 0, 1) := by decide +kernel
theorem dX10_swap_189 : decode cX10_swap 189 = .ok (.invokevirtual 170, 3) := by decide +kernel
theorem dX10_swap_192 : decode cX10_swap 192 = .ok (.aload_n 0, 1) := by decide +kernel
theorem dX10_swap_193 : decode cX10_swap 193 = .ok (.iconst 2, 1) := by decide +kernel
theorem dX10_swap_194 : decode cX10_swap 194 = .ok (.iload_n 1, 1) := by decide +kernel
theorem dX10_swap_195 : decode cX10_swap 195 = .ok (.invokevirtual 155, 3) := by decide +kernel
theorem dX10_swap_198 : decode cX10_swap 198 = .ok (.aload_n 0, 1) := by decide +kernel
theorem dX10_swap_199 : decode cX10_swap 199 = .ok (.iconst 1, 1) := by decide +kernel
theorem dX10_swap_200 : decode cX10_swap 200 = .ok (.putfield 177, 3) := by decide +kernel
theorem dX10_swap_203 : decode cX10_swap 203 = .ok (.iconst 0, 1) := by decide +kernel
theorem dX10_swap_204 : decode cX10_swap 204 = .ok (.ireturn, 1) := by decide +kernel
theorem dX10_swapped_0 : decode cX10_swapped 0 = .ok (.iload_n 1, 1) := by decide +kernel
theorem dX10_swapped_1 : decode cX10_swapped 1 = .ok (.i2l, 1) := by decide +kernel
theorem dX10_swapped_2 : decode cX10_swapped 2 = .ok (.lconst 0, 1) := by decide +kernel
theorem dX10_swapped_3 : decode cX10_swapped 3 = .ok (.ldc2_w 243, 3) := by decide +kernel
theorem dX10_swapped_6 : decode cX10_swapped 6 = .ok (.invokestatic 85, 3) := by decide +kernel
theorem dX10_swapped_9 : decode cX10_swapped 9 = .ok (.ifCond .eq 25, 3) := by decide +kernel
theorem dX10_swapped_12 : decode cX10_swapped 12 = .ok (.iload_n 2, 1) := by decide +kernel
theorem dX10_swapped_13 : decode cX10_swapped 13 = .ok (.i2l, 1) := by decide +kernel
theorem dX10_swapped_14 : decode cX10_swapped 14 = .ok (.lconst 1, 1) := by decide +kernel
theorem dX10_swapped_15 : decode cX10_swapped 15 = .ok (.ldc2_w 229, 3) := by decide +kernel
theorem dX10_swapped_18 : decode cX10_swapped 18 = .ok (.invokestatic 85, 3) := by decide +kernel
theorem dX10_swapped_21 : decode cX10_swapped 21 = .ok (.ifCond .eq 13, 3) := by decide +kernel
theorem dX10_swapped_24 : decode cX10_swapped 24 = .ok (.iload_n 3, 1) := by decide +kernel
theorem dX10_swapped_25 : decode cX10_swapped 25 = .ok (.i2l, 1) := by decide +kernel
theorem dX10_swapped_26 : decode cX10_swapped 26 = .ok (.lconst 0, 1) := by decide +kernel
theorem dX10_swapped_27 : decode cX10_swapped 27 = .ok (.lconst 1, 1) := by decide +kernel
theorem dX10_swapped_28 : decode cX10_swapped 28 = .ok (.invokestatic 85, 3) := by decide +kernel
theorem dX10_swapped_31 : decode cX10_swapped 31 = .ok (.ifCond .ne 7, 3) := by decide +kernel
theorem dX10_swapped_34 : decode cX10_swapped 34 = .ok (.ldc2_w 236, 3) := by decide +kernel
theorem dX10_swapped_37 : decode cX10_swapped 37 = .ok (.lreturn, 1) := by decide +kernel
theorem dX10_swapped_38 : decode cX10_swapped 38 = .ok (.aload_n 0, 1) := by decide +kernel
theorem dX10_swapped_39 : decode cX10_swapped 39 = .ok (.iload_n 1, 1) := by decide +kernel
theorem dX10_swapped_40 : decode cX10_swapped 40 = .ok (.invokevirtual 248, 3) := by decide +kernel
theorem dX10_swapped_43 : decode cX10_swapped 43 = .ok (.ifCond .eq 10, 3) := by decide +kernel
theorem dX10_swapped_46 : decode cX10_swapped 46 = .ok (.aload_n 0, 1) := by decide +kernel
theorem dX10_swapped_47 : decode cX10_swapped 47 = .ok (.getfield 177, 3) := by decide +kernel
theorem dX10_swapped_50 : decode cX10_swapped 50 = .ok (.ifCond .ne 7, 3) := by decide +kernel
theorem dX10_swapped_53 : decode cX10_swapped 53 = .ok (.ldc2_w 238, 3) := by decide +kernel
theorem dX10_swapped_56 : decode cX10_swapped 56 = .ok (.lreturn, 1) := by decide +kernel
theorem dX10_swapped_57 : decode cX10_swapped 57 = .ok (.aload_n 0, 1) := by decide +kernel
theorem dX10_swapped_58 : decode cX10_swapped 58 = .ok (.invokevirtual 274, 3) := by decide +kernel
theorem dX10_swapped_61 : decode cX10_swapped 61 = .ok (.aload_n 0, 1) := by decide +kernel
theorem dX10_swapped_62 : decode cX10_swapped 62 = .ok (.iconst 0, 1) := by decide +kernel
theorem dX10_swapped_63 : decode cX10_swapped 63 = .ok (.iconst 0, 1) := by decide +kernel
theorem dX10_swapped_64 : decode cX10_swapped 64 = .ok (.invokevirtual 186, 3) := by decide +kernel
theorem dX10_swapped_67 : decode cX10_swapped 67 = .ok (.iconst 0, 1) := by decide +kernel
theorem dX10_swapped_68 : decode cX10_swapped 68 = .ok (.istore 4, 2) := by decide +kernel
theorem dX10_swapped_70 : decode cX10_swapped 70 = .ok (.iload 4, 2) := by decide +kernel
theorem dX10_swapped_72 : decode cX10_swapped 72 = .ok (.iload_n 2, 1) := by decide +kernel
theorem dX10_swapped_73 : decode cX10_swapped 73 = .ok (.if_icmp .ge 27, 3) := by decide +kernel
theorem dX10_swapped_76 : decode cX10_swapped 76 = .ok (.aload_n 0, 1) := by decide +kernel
theorem dX10_swapped_77 : decode cX10_swapped 77 = .ok (.iconst 0, 1) := by decide +kernel
theorem dX10_swapped_78 : decode cX10_swapped 78 = .ok (.iconst 0, 1) := by decide +kernel
theorem dX10_swapped_79 : decode cX10_swapped 79 = .ok (.invokevirtual 231, 3) := by decide +kernel
theorem dX10_swapped_82 : decode cX10_swapped 82 = .ok (.aload_n 0, 1) := by decide +kernel
theorem dX10_swapped_83 : decode cX10_swapped 83 = .ok (.getfield 77, 3) := by decide +kernel
theorem dX10_swapped_86 : decode cX10_swapped 86 = .ok (.iload 4, 2) := by decide +kernel
theorem dX10_swapped_88 : decode cX10_swapped 88 = .ok (.aload_n 0, 1) := by decide +kernel
theorem dX10_swapped_89 : decode cX10_swapped 89 = .ok (.iload_n 1, 1) := by decide +kernel
theorem dX10_swapped_90 : decode cX10_swapped 90 = .ok (.invokevirtual 251, 3) := by decide +kernel
theorem dX10_swapped_93 : decode cX10_swapped 93 = .ok (.lastore, 1) := by decide +kernel
theorem dX10_swapped_94 : decode cX10_swapped 94 = .ok (.iinc 4 1, 3) := by decide +kernel
theorem dX10_swapped_97 : decode cX10_swapped 97 = .ok (.goto (-27), 3) := by decide +kernel
theorem dX10_swapped_100 : decode cX10_swapped 100 = .ok (.aload_n 0, 1) := by decide +kernel
theorem dX10_swapped_101 : decode cX10_swapped 101 = .ok (.iconst 2, 1) := by decide +kernel
theorem dX10_swapped_102 : decode cX10_swapped 102 = .ok (.iconst 0, 1) := by decide +kernel
theorem dX10_swapped_103 : decode cX10_swapped 103 = .ok (.invokevirtual 186, 3) := by decide +kernel
theorem dX10_swapped_106 : decode cX10_swapped 106 = .ok (.bipush (-4), 2) := by decide +kernel
theorem dX10_swapped_108 : decode cX10_swapped 108 = .ok (.istore 4, 2) := by decide +kernel
theorem dX10_swapped_110 : decode cX10_swapped 110 = .ok (.lconst 0, 1) := by decide +kernel
theorem dX10_swapped_111 : decode cX10_swapped 111 = .ok (.lstore 5, 2) := by decide +kernel
theorem dX10_swapped_113 : decode cX10_swapped 113 = .ok (.iconst 0, 1) := by decide +kernel
theorem dX10_swapped_114 : decode cX10_swapped 114 = .ok (.istore 7, 2) := by decide +kernel
theorem dX10_swapped_116 : decode cX10_swapped 116 = .ok (.iload 7, 2) := by decide +kernel
theorem dX10_swapped_118 : decode cX10_swapped 118 = .ok (.iload_n 2, 1) := by decide +kernel
theorem dX10_swapped_119 : decode cX10_swapped 119 = .ok (.if_icmp .ge 63, 3) := by decide +kernel
theorem dX10_swapped_122 : decode cX10_swapped 122 = .ok (.aload_n 0, 1) := by decide +kernel
theorem dX10_swapped_123 : decode cX10_swapped 123 = .ok (.iconst 2, 1) := by decide +kernel
theorem dX10_swapped_124 : decode cX10_swapped 124 = .ok (.iconst 0, 1) := by decide +kernel
theorem dX10_swapped_125 : decode cX10_swapped 125 = .ok (.invokevirtual 231, 3) := by decide +kernel
theorem dX10_swapped_128 : decode cX10_swapped 128 = .ok (.iload 4, 2) := by decide +kernel
theorem dX10_swapped_130 : decode cX10_swapped 130 = .ok (.ifCond .ge 24, 3) := by decide +kernel
theorem dX10_swapped_133 : decode cX10_swapped 133 = .ok (.aload_n 0, 1) := by decide +kernel
theorem dX10_swapped_134 : decode cX10_swapped 134 = .ok (.iload_n 1, 1) := by decide +kernel
theorem dX10_swapped_135 : decode cX10_swapped 135 = .ok (.invokevirtual 251, 3) := by decide +kernel
theorem dX10_swapped_138 : decode cX10_swapped 138 = .ok (.aload_n 0, 1) := by decide +kernel
theorem dX10_swapped_139 : decode cX10_swapped 139 = .ok (.getfield 77, 3) := by decide +kernel
theorem dX10_swapped_142 : decode cX10_swapped 142 = .ok (.iload 7, 2) := by decide +kernel
theorem dX10_swapped_144 : decode cX10_swapped 144 = .ok (.laload, 1) := by decide +kernel
theorem dX10_swapped_145 : decode cX10_swapped 145 = .ok (.lcmp, 1) := by decide +kernel
theorem dX10_swapped_146 : decode cX10_swapped 146 = .ok (.ifCond .eq 8, 3) := by decide +kernel
theorem dX10_swapped_149 : decode cX10_swapped 149 = .ok (.iload 7, 2) := by decide +kernel
theorem dX10_swapped_151 : decode cX10_swapped 151 = .ok (.goto 5, 3) := by decide +kernel
theorem dX10_swapped_154 : decode cX10_swapped 154 = .ok (.iload 4, 2) := by decide +kernel
theorem dX10_swapped_156 : decode cX10_swapped 156 = .ok (.istore 4, 2) := by decide +kernel
theorem dX10_swapped_158 : decode cX10_swapped 158 = .ok (.lload 5, 2) := by decide +kernel
theorem dX10_swapped_160 : decode cX10_swapped 160 = .ok (.aload_n 0, 1) := by decide +kernel
theorem dX10_swapped_161 : decode cX10_swapped 161 = .ok (.iload_n 1, 1) := by decide +kernel
theorem dX10_swapped_162 : decode cX10_swapped 162 = .ok (.invokevirtual 251, 3) := by decide +kernel
theorem dX10_swapped_165 : decode cX10_swapped 165 = .ok (.aload_n 0, 1) := by decide +kernel
theorem dX10_swapped_166 : decode cX10_swapped 166 = .ok (.getfield 77, 3) := by decide +kernel
theorem dX10_swapped_169 : decode cX10_swapped 169 = .ok (.iload 7, 2) := by decide +kernel
theorem dX10_swapped_171 : decode cX10_swapped 171 = .ok (.laload, 1) := by decide +kernel
theorem dX10_swapped_172 : decode cX10_swapped 172 = .ok (.lsub, 1) := by decide +kernel
theorem dX10_swapped_173 : decode cX10_swapped 173 = .ok (.ladd, 1) := by decide +kernel
theorem dX10_swapped_174 : decode cX10_swapped 174 = .ok (.lstore 5, 2) := by decide +kernel
theorem dX10_swapped_176 : decode cX10_swapped 176 = .ok (.iinc 7 1, 3) := by decide +kernel
theorem dX10_swapped_179 : decode cX10_swapped 179 = .ok (.goto (-63), 3) := by decide +kernel
theorem dX10_swapped_182 : decode cX10_swapped 182 = .ok (.aload_n 0, 1) := by decide +kernel
theorem dX10_swapped_183 : decode cX10_swapped 183 = .ok (.invokevirtual 277, 3) := by decide +kernel
theorem dX10_swapped_186 : decode cX10_swapped 186 = .ok (.iload_n 3, 1) := by decide +kernel
theorem dX10_swapped_187 : decode cX10_swapped 187 = .ok (.ifCond .ne 9, 3) := by decide +kernel
theorem dX10_swapped_190 : decode cX10_swapped 190 = .ok (.iload 4, 2) := by decide +kernel
theorem dX10_swapped_192 : decode cX10_swapped 192 = .ok (.i2l, 1) := by decide +kernel
theorem dX10_swapped_193 : decode cX10_swapped 193 = .ok (.goto 5, 3) := by decide +kernel
theorem dX10_swapped_196 : decode cX10_swapped 196 = .ok (.lload 5, 2) := by decide +kernel
theorem dX10_swapped_198 : decode cX10_swapped 198 = .ok (.lreturn, 1) := by decide +kernel
def uX10_swap : List Cond := .code yX10_swap cX10_swap 5 (some .int) :: ([.constantLong RX10 194 (39), .methodLink RX10 85 yX10_in, .static yX10_in, .initialized RX10, .fieldLink RX10 173 "RiverModelModel" "isBuilt" "Z", .fieldLink RX10 163 "RiverModelModel" "items" "I", .fieldLink RX10 13 "RiverModelModel" "kind" "[I", .methodLink RX10 151 yX10_readsItem, .instanceMethod yX10_readsItem, .selects RX10 yX10_readsItem yX10_readsItem, .fieldLink RX10 109 "RiverModelModel" "end" "I", .fieldLink RX10 89 "RiverModelModel" "length" "I", .fieldLink RX10 125 "RiverModelModel" "readKind" "I", .methodLink RX10 170 yX10_copies, .instanceMethod yX10_copies, .selects RX10 yX10_copies yX10_copies, .methodLink RX10 155 yX10_lays, .instanceMethod yX10_lays, .selects RX10 yX10_lays yX10_lays, .fieldLink RX10 177 "RiverModelModel" "isSwapped" "Z", .fieldLink RX10 135 "RiverModelModel" "readFirst" "I", .fieldLink RX10 16 "RiverModelModel" "first" "[I", .code yX10_in cX10_in 6 (some .boolean), .code yX10_readsItem cX10_readsItem 8 (some .boolean), .methodLink RX10 112 yX10_byteAt, .instanceMethod yX10_byteAt, .selects RX10 yX10_byteAt yX10_byteAt, .methodLink RX10 128 yX10_shape, .static yX10_shape, .methodLink RX10 131 yX10_isName, .static yX10_isName, .fieldLink RX10 138 "RiverModelModel" "readSecond" "I", .fieldLink RX10 74 "RiverModelModel" "readNumber" "[I", .methodLink RX10 144 yX10_areWell, .static yX10_areWell, .methodLink RX10 141 yX10_readsNumber, .instanceMethod yX10_readsNumber, .selects RX10 yX10_readsNumber yX10_readsNumber, .code yX10_byteAt cX10_byteAt 2 (some .int), .fieldLink RX10 7 "RiverModelModel" "text" "[I", .code yX10_shape cX10_shape 1 (some .int), .code yX10_isName cX10_isName 1 (some .boolean), .constantLong RX10 95 (97), .constantLong RX10 97 (112), .code yX10_areWell cX10_areWell 4 (some .boolean), .constantLong RX10 101 (1000), .constantLong RX10 103 (10000), .constantLong RX10 99 (1000000), .constantLong RX10 107 (100), .constantLong RX10 105 (12), .code yX10_readsNumber cX10_readsNumber 3 (some .boolean), .fieldLink RX10 116 "RiverModelModel" "figures" "I", .constantLong RX10 123 (7), .constantLong RX10 119 (48), .constantLong RX10 121 (57), .code yX10_copies cX10_copies 4 none, .fieldLink RX10 22 "RiverModelModel" "number" "[I", .fieldLink RX10 19 "RiverModelModel" "second" "[I", .code yX10_lays cX10_lays 5 none] ++ wsX100)
set_option maxRecDepth 20000 in
theorem gu_X10_swap_X10_in_85 : GoodIn uX10_swap (va_wsS RX10 85 yX10_in uX10_in) := goodIn_r _ [2, 3, 4, 23] rfl (by decide +kernel)
set_option maxRecDepth 20000 in
theorem gu_X10_swap_X10_readsItem_151 : GoodIn uX10_swap (wsV RX10 151 RX10 yX10_readsItem uX10_readsItem) := goodIn_r _ [8, 9, 10, 4, 24, 11, 25, 26, 27, 4, 13, 28, 29, 30, 31, 21, 32, 33, 34, 35, 36, 37, 38, 39, 12, 40, 41, 42, 43, 44, 2, 3, 23, 45, 46, 47, 48, 49, 50, 51, 52, 53, 54, 55, 60, 61, 62, 63, 64, 65, 66, 67, 68, 69, 70, 71, 72, 73, 74, 75, 76, 77, 78, 79, 80, 81, 82, 83, 84, 85, 86, 87, 88, 89, 90, 91, 92, 93, 94, 95] rfl (by decide +kernel)
set_option maxRecDepth 20000 in
theorem gu_X10_swap_X10_copies_170 : GoodIn uX10_swap (wsV RX10 170 RX10 yX10_copies uX10_copies) := goodIn_r _ [14, 15, 16, 4, 56, 57, 7, 22, 58, 60, 61, 62, 63, 64, 65, 66, 67, 68, 69, 70, 71, 72, 73, 74, 75, 76, 77, 78, 79, 80, 81, 82, 83, 84, 85, 86, 87, 88, 89, 90, 91, 92, 93, 94, 95] rfl (by decide +kernel)
set_option maxRecDepth 20000 in
theorem gu_X10_swap_X10_lays_155 : GoodIn uX10_swap (wsV RX10 155 RX10 yX10_lays uX10_lays) := goodIn_r _ [17, 18, 19, 4, 59, 7, 13, 22, 21, 58, 32, 57, 33, 60, 61, 62, 63, 64, 65, 66, 67, 68, 69, 70, 71, 72, 73, 74, 75, 76, 77, 78, 79, 80, 81, 82, 83, 84, 85, 86, 87, 88, 89, 90, 91, 92, 93, 94, 95] rfl (by decide +kernel)
set_option maxHeartbeats 4000000 in
set_option maxRecDepth 100000 in
theorem m_X10_swap (l : Launch) (D : va_G) (t : Nat → Nat) (cI cL cC : ClassId) (gC : Int32) (gE : Int32) (gW : Nat → Int32) (gA : Nat → Int32) (gT : Nat → Int32) (gI : Int32) (gS : Int32) (gM : Int32) (K : Nat → Int32) (F : Nat → Int32) (S : Nat → Int32) (N : Nat → Int32) (gH : Int) (gJ : Int) (ge : Int32) (gk : Int32) (gf : Int32) (gs : Int32) (gg : Int32) (gr : Int32) (RN : Nat → Int32) (gb : Int32) (rV : Nat → Int32) (rN : Nat → Int32) (a0 : Nat) (a1 : Int32) (uq : ∀ b c : Nat, t b = t c → t b ≠ 0 → b = c) (hC0 : 0 ≤ gC.toInt) (hC4 : gC.toInt ≤ 400) (hI0 : 0 ≤ gI.toInt) (hI4 : gI.toInt ≤ 40) (hH0 : 0 ≤ gH) (hH9 : gH ≤ 96) (hm0 : 0 ≤ gM.toInt) (hm3 : gM.toInt ≤ 3) (hO0 : okM K F S N 0 gI.toInt) (hW : swM gS K F S N gI.toInt) (hoR : othR gb gS gI K F) (k_a0 : t a0 = 40) : tMx (Z := (Int32) × (Int32) × (Int32) × (Int32) × (Int32) × (Nat → Int32) × (Nat → Int32) × (Nat → Int32) × (Nat → Int32) × (Nat → Int32) × (Int32)) l yX10_swap uX10_swap 3 75 D (mF cI cL cC gC gE gW gA gT gI gS gM K F S N gH gJ ge gk gf gs gg gr RN gb rV rN) (fun z => (mF cI cL cC gC gE gW gA gT gI z.2.2.2.2.2.2.2.2.2.2 gM z.2.2.2.2.2.2.1 z.2.2.2.2.2.2.2.1 z.2.2.2.2.2.2.2.2.1 z.2.2.2.2.2.2.2.2.2.1 gH gJ z.1 z.2.1 z.2.2.1 z.2.2.2.1 z.2.2.2.2.1 gr z.2.2.2.2.2.1 gb rV rN)) t cI cL cC [.ref a0, .int a1] wPI (xI (fun r (z : (Int32) × (Int32) × (Int32) × (Int32) × (Int32) × (Nat → Int32) × (Nat → Int32) × (Nat → Int32) × (Nat → Int32) × (Nat → Int32) × (Int32)) => okM z.2.2.2.2.2.2.1 z.2.2.2.2.2.2.2.1 z.2.2.2.2.2.2.2.2.1 z.2.2.2.2.2.2.2.2.2.1 0 gI.toInt ∧ swM z.2.2.2.2.2.2.2.2.2.2 z.2.2.2.2.2.2.1 z.2.2.2.2.2.2.2.1 z.2.2.2.2.2.2.2.2.1 z.2.2.2.2.2.2.2.2.2.1 gI.toInt ∧ othR gb z.2.2.2.2.2.2.2.2.2.2 gI z.2.2.2.2.2.2.1 z.2.2.2.2.2.2.2.1 ∧ smR gb gb gI K F z.2.2.2.2.2.2.1 z.2.2.2.2.2.2.2.1 ∧ swpR (byT gT gC) gC.toInt gb gI a1 r K F)) := by
  refine tMx.ofW (cc := cX10_swap) (maxL := 5) (ret := (some .int)) (by decide) rfl (Nat.le_of_ble_eq_true rfl) ?_
  intro p e s m below meth c hx hb hr hml hown hts hlk H locs hG hK hE hS ls hl
  have hl : lv_has ls 5 [(0, .ref a0), (1, .int a1)] := hl
  have in10 : ∀ w ∈ wsX100, w ∈ uX10_swap := fun w h => List.mem_cons_of_mem _ (List.mem_append_right _ h)
  refine lv_iload_n hx hb dX10_swap_0 rfl (lv_at hl 1 rfl) ?_
  refine lv_i2l (v := a1.toInt64) hx hb dX10_swap_1 rfl ?_
  refine lv_lconst (v := 0) hx hb dX10_swap_2 (by decide) ?_
  refine lv_ldc2 hx hb hown (hts (.constantLong RX10 194 (39)) (List.mem_of_getElem? (i := 1) rfl)) dX10_swap_3 ?_
  have zl_0 : (0 : Int64).toInt = 0 := by decide
  have zl_39 : (39 : Int64).toInt = 39 := by decide
  refine ty_calli (W.runS (As := [.long a1.toInt64, .long 0, .long 39]) (rest := []) ⟨hx, hb, hml, hown, hts⟩ (m_X10_in l D t cI cL cC gC gE gW gA gT gI gS gM K F S N gH gJ ge gk gf gs gg gr RN gb rV rN a1.toInt64 0 39 a1.toInt 0 39 uq (q_i2l _) (by decide) (by decide) ) (va_cwS 3 hts gu_X10_swap_X10_in_85 rfl rfl rfl (by decide +kernel) ⟨Nat.le_of_ble_eq_true rfl, Nat.le_of_ble_eq_true rfl⟩) (tP_S hG hE) rfl rfl hl.1 rfl (lv_room (Nat.le_of_ble_eq_true rfl)) dX10_swap_6 ⟨Nat.le_of_ble_eq_true rfl, Nat.le_of_ble_eq_true rfl⟩) hS (fun k h => by simp [wr0] at h) (fun r_1 H locs hp_2 hG hS o_3 => ?_)
  have hp_2 : (r_1 = 1 ∧ 0 ≤ a1.toInt ∧ a1.toInt ≤ 39) ∨ (r_1 = 0 ∧ (a1.toInt < 0 ∨ 39 < a1.toInt)) := hp_2
  rcases hp_2 with ⟨rfl, p_5, p_6⟩ | ⟨rfl, p_7⟩
  · skip
    refine lv_if_ne (tgt := 14) hx hb dX10_swap_9 (by decide) (fun _ => ?_) (fun q => absurd q (by decide))
    refine lv_aload_n hx hb dX10_swap_14 rfl (lv_at hl 0 rfl) ?_
    refine lv_pc (pc2 := 15) rfl ?_
    obtain ⟨r_8, r_10, r_12, r_14, r_16, r_18, r_20, r_22, r_24, r_26, r_28, r_30, r_32, r_34, r_36, r_38, r_40, r_42, r_44, r_46, r_48, r_50, v_52, r_53, at_55, h_9, h_11, h_13, h_15, h_17, h_19, h_21, h_23, h_25, h_27, h_29, h_31, h_33, h_35, h_37, h_39, h_41, h_43, h_45, h_47, h_49, h_51, h_54⟩ := mF_o40 hG k_a0
    refine va_get (D := D) (ci := 9) (v := .int gb) (C := RX10) (T := TX10) (N := 36) hx hb hts in10 hown hK (va_one at_55) 0 rfl rfl 2 (by decide) (hts (.fieldLink RX10 173 "RiverModelModel" "isBuilt" "Z") (List.mem_of_getElem? (i := 5) rfl)) (fun _ h9 => h9) rfl dX10_swap_15 ?_
    refine lv_if_eq (tgt := 29) hx hb dX10_swap_18 (by decide) (fun c_56 => ?_) (fun c_56 => ?_)
    · skip
      have c_56 : gb.toInt = 0 := q_eq c_56
      refine lv_bipush (v := (-2)) hx hb dX10_swap_29 (by decide) ?_
      have zi_m2 : ((-2) : Int32).toInt = (-2) := by decide
      exact tx_iret (z := (ge, gk, gf, gs, gg, RN, K, F, S, N, gS)) hx hb hr hlk hG hS ⟨(show okM K F S N 0 gI.toInt from hO0), (show swM gS K F S N gI.toInt from hW), (show othR gb gS gI K F from hoR), (show smR gb gb gI K F K F from smR.rf), (by show swpR (byT gT gC) gC.toInt gb gI a1 ((-2) : Int32) K F; exact Or.inr (Or.inl ⟨by omega, by omega, by omega, by omega⟩))⟩ dX10_swap_31
    · skip
      have c_56 : gb.toInt ≠ 0 := q_ne c_56
      refine lv_iload_n hx hb dX10_swap_21 rfl (lv_at hl 1 rfl) ?_
      refine lv_aload_n hx hb dX10_swap_22 rfl (lv_at hl 0 rfl) ?_
      refine va_get (D := D) (ci := 9) (v := .int gI) (C := RX10) (T := TX10) (N := 36) hx hb hts in10 hown hK (va_one at_55) 0 rfl rfl 3 (by decide) (hts (.fieldLink RX10 163 "RiverModelModel" "items" "I") (List.mem_of_getElem? (i := 6) rfl)) (fun _ h9 => h9) rfl dX10_swap_23 ?_
      refine lv_icmp_lt (tgt := 32) hx hb dX10_swap_26 (by decide) (fun c_57 => ?_) (fun c_57 => ?_)
      · skip
        have c_57 : a1.toInt < gI.toInt := q_lt c_57
        refine lv_pc (pc2 := 32) rfl ?_
        refine lv_iconst (v := 0) hx hb dX10_swap_32 (by decide) ?_
        refine lv_istore_n (lv' := [(2, .int 0), (0, .ref a0), (1, .int a1)]) hx hb dX10_swap_33 rfl hl (by decide) rfl (fun ls hl => ?_)
        refine lv_iconst (v := 0) hx hb dX10_swap_34 (by decide) ?_
        refine lv_istore_n (lv' := [(3, .int 0), (2, .int 0), (0, .ref a0), (1, .int a1)]) hx hb dX10_swap_35 rfl hl (by decide) rfl (fun ls hl => ?_)
        refine lv_pc (pc2 := 36) rfl ?_
        refine lp_gen (fun WW58 hWW58 => ?_)
        have kx58 : ∀ (yk : Int32) (yn : Int32) (H1 : Heap) (locs1 : List Loc) (ls1 : Array Slot), (0 ≤ yk.toInt) → (yk.toInt ≤ a1.toInt) → (nmS K F 0 yk.toInt yn) → (nmE K F 0 yk.toInt yn) → (a1.toInt ≤ yk.toInt) → tG D (mF cI cL cC gC gE gW gA gT gI gS gM K F S N gH gJ ge gk gf gs gg gr RN gb rV rN) t H1 → tF t wPI s.heap H1 locs1 → lv_has ls1 5 [(3, .int yk), (2, .int yn), (0, .ref a0), (1, .int a1)] → WW58 H1 locs1 (F0 m 73 ls1 []) := by
          intro yk yn H locs ls v58_0 v58_1 v58_2 v58_3 xf58_0 hG hS hl
          refine (hWW58 _ _ _).mpr ?_
          have hnE := nmE.at (n' := a1.toInt) v58_3 (by omega)
          refine lv_aload_n hx hb dX10_swap_73 rfl (lv_at hl 2 rfl) ?_
          obtain ⟨r_59, r_61, r_63, r_65, r_67, r_69, r_71, r_73, r_75, r_77, r_79, r_81, r_83, r_85, r_87, r_89, r_91, r_93, r_95, r_97, r_99, r_101, v_103, r_104, at_106, h_60, h_62, h_64, h_66, h_68, h_70, h_72, h_74, h_76, h_78, h_80, h_82, h_84, h_86, h_88, h_90, h_92, h_94, h_96, h_98, h_100, h_102, h_105⟩ := mF_o40 hG k_a0
          refine va_get (D := D) (ci := 9) (v := .ref r_61) (C := RX10) (T := TX10) (N := 36) hx hb hts in10 hown hK (va_one at_106) 0 rfl rfl 4 (by decide) (hts (.fieldLink RX10 13 "RiverModelModel" "kind" "[I") (List.mem_of_getElem? (i := 7) rfl)) (fun _ h9 => h9) rfl dX10_swap_74 ?_
          refine lv_iload_n hx hb dX10_swap_77 rfl (lv_at hl 3 rfl) ?_
          have at_107 := mF_o42 hG h_62
          have b_108 : vp_in a1 120 := (q_in (by omega) (by omega))
          refine va_iald hx hb hK (va_one at_107) 0 0 rfl rfl b_108 dX10_swap_78 ?_
          refine lv_topi (fun x_109 e_110 => ?_)
          have w_x_109 : x_109 = K (0 + a1.toInt).toNat := by rw [e_110]; exact congrArg (fun q : Int => K q.toNat) (show a1.toInt = 0 + a1.toInt by omega)
          have i_x_109 : x_109.toInt = (K (0 + a1.toInt).toNat).toInt := by rw [w_x_109]
          refine lv_pc (pc2 := 79) rfl ?_
          refine lv_bipush (v := 115) hx hb dX10_swap_79 (by decide) ?_
          refine lv_icmp_ne (tgt := 88) hx hb dX10_swap_81 (by decide) (fun c_111 => ?_) (fun c_111 => ?_)
          · skip
            have c_111 : x_109.toInt ≠ 115 := q_ne c_111
            refine lv_iconst (v := 0) hx hb dX10_swap_88 (by decide) ?_
            refine lv_istore_n (lv' := [(3, .int 0), (2, .int yn), (0, .ref a0), (1, .int a1)]) hx hb dX10_swap_89 rfl hl (by decide) rfl (fun ls hl => ?_)
            refine lv_pc (pc2 := 90) rfl ?_
            refine lp_gen (fun WW112 hWW112 => ?_)
            have jn112 : ∀ (vj112 : Int32), (0 ≤ vj112.toInt) → (vj112.toInt ≤ 1) → (vj112.toInt = 1 ↔ (K (0 + a1.toInt).toNat).toInt = 103) → WW112 H locs (F0 m 106 ls (.int vj112 :: [])) := by
              intro vj112 fj112_0 fj112_1 fj112_2
              refine (hWW112 _ _ _).mpr ?_
              refine lv_istore (lv' := [(4, .int vj112), (3, .int 0), (2, .int yn), (0, .ref a0), (1, .int a1)]) hx hb dX10_swap_106 hl (by decide) rfl (fun ls hl => ?_)
              refine lv_aload_n hx hb dX10_swap_108 rfl (lv_at hl 3 rfl) ?_
              refine lv_iconst (v := 0) hx hb dX10_swap_109 (by decide) ?_
              refine lv_iload_n hx hb dX10_swap_110 rfl (lv_at hl 2 rfl) ?_
              refine lv_pc (pc2 := 111) rfl ?_
              refine lv_iconst (v := 0) hx hb dX10_swap_111 (by decide) ?_
              have zi_0 : (0 : Int32).toInt = 0 := by decide
              refine tx_calli (W.runV (As := [.int 0, .int yn, .int 0]) (rest := []) ⟨hx, hb, hml, hown, hts⟩ (m_X10_readsItem l D t cI cL cC gC gE gW gA gT gI gS gM K F S N gH gJ ge gk gf gs gg gr RN gb rV rN a0 0 yn 0  uq (by omega) (by omega) (by omega) (by omega) k_a0) (cwV 3 hts gu_X10_swap_X10_readsItem_151 rfl rfl rfl (by decide +kernel) ⟨Nat.le_of_ble_eq_true rfl, Nat.le_of_ble_eq_true rfl⟩) (tP_V hG hE at_106 rfl) rfl rfl hl.1 rfl (lv_room (Nat.le_of_ble_eq_true rfl)) dX10_swap_112 ⟨Nat.le_of_ble_eq_true rfl, Nat.le_of_ble_eq_true rfl⟩) hS (wrL_sub (by decide)) (fun r_113 zz_116 H locs hp_114 hG hS o_115 => ?_)
              obtain ⟨ge_117, gk_118, gf_119, gs_120, gg_121, RN_122⟩ := zz_116
              have at_107 := va_at.keptC at_107 o_115 h_62 rfl
              replace hG : tG D (mF cI cL cC gC gE gW gA gT gI gS gM K F S N gH gJ ge_117 gk_118 gf_119 gs_120 gg_121 gr RN_122 gb rV rN) t H := hG
              have hp_114 : (r_113 = 1 ∧ (0 : Int32).toInt < ge_117.toInt ∧ ge_117.toInt ≤ (0 : Int32).toInt + 40 ∧ itOk gk_118 gf_119 gs_120 (RN_122 0) (RN_122 1) ∧ nmOk gk_118 gf_119 yn ∧ itemAt (byT gT gC) (0 : Int32).toInt gk_118 gf_119 gs_120 (RN_122 0) (RN_122 1) (RN_122 2) ge_117.toInt ∧ okIt yn (0 : Int32).toInt gk_118 gf_119 gs_120 (RN_122 0) (RN_122 1) (RN_122 2)) ∨ (r_113 = 0 ∧ noVit (byT gT gC) (0 : Int32).toInt yn (0 : Int32).toInt) := hp_114
              rcases hp_114 with ⟨rfl, p_123, p_124, p_125, p_126, p_127, p_128⟩ | ⟨rfl, p_129⟩
              · skip
                rw [zi_0] at p_127 p_128
                refine lv_if_eq (tgt := 183) hx hb dX10_swap_115 (by decide) (fun q => absurd q (by decide)) (fun _ => ?_)
                refine lv_aload_n hx hb dX10_swap_118 rfl (lv_at hl 3 rfl) ?_
                obtain ⟨r_130, r_132, r_134, r_136, r_138, r_140, r_142, r_144, r_146, r_148, r_150, r_152, r_154, r_156, r_158, r_160, r_162, r_164, r_166, r_168, r_170, r_172, v_174, r_175, at_177, h_131, h_133, h_135, h_137, h_139, h_141, h_143, h_145, h_147, h_149, h_151, h_153, h_155, h_157, h_159, h_161, h_163, h_165, h_167, h_169, h_171, h_173, h_176⟩ := mF_o40 hG k_a0
                refine va_get (D := D) (ci := 9) (v := .int ge_117) (C := RX10) (T := TX10) (N := 36) hx hb hts in10 hown hK (va_one at_177) 0 rfl rfl 27 (by decide) (hts (.fieldLink RX10 109 "RiverModelModel" "end" "I") (List.mem_of_getElem? (i := 11) rfl)) (fun _ h9 => h9) rfl dX10_swap_119 ?_
                refine lv_aload_n hx hb dX10_swap_122 rfl (lv_at hl 3 rfl) ?_
                refine va_get (D := D) (ci := 9) (v := .int gC) (C := RX10) (T := TX10) (N := 36) hx hb hts in10 hown hK (va_one at_177) 0 rfl rfl 0 (by decide) (hts (.fieldLink RX10 89 "RiverModelModel" "length" "I") (List.mem_of_getElem? (i := 12) rfl)) (fun _ h9 => h9) rfl dX10_swap_123 ?_
                refine lv_icmp_ne (tgt := 183) hx hb dX10_swap_126 (by decide) (fun c_178 => ?_) (fun c_178 => ?_)
                · skip
                  have c_178 : ge_117.toInt ≠ gC.toInt := q_ne c_178
                  refine lv_pc (pc2 := 183) rfl ?_
                  refine lv_bipush (v := (-2)) hx hb dX10_swap_183 (by decide) ?_
                  have zi_m2 : ((-2) : Int32).toInt = (-2) := by decide
                  exact tx_iret (z := (ge_117, gk_118, gf_119, gs_120, gg_121, RN_122, K, F, S, N, gS)) hx hb hr hlk hG hS ⟨(show okM K F S N 0 gI.toInt from hO0), (show swM gS K F S N gI.toInt from hW), (show othR gb gS gI K F from hoR), (show smR gb gb gI K F K F from smR.rf), (by show swpR (byT gT gC) gC.toInt gb gI a1 ((-2) : Int32) K F; refine Or.inr (Or.inr ⟨by omega, by omega, by omega, by omega, _, hnE, Or.inl ⟨by omega, ?_⟩⟩); first | exact swY.noE p_127 (by omega) | exact swY.noK (itemAt.at p_127 (by omega)) (by omega))⟩ dX10_swap_185
                · skip
                  have c_178 : ge_117.toInt = gC.toInt := q_eq c_178
                  refine lv_aload_n hx hb dX10_swap_129 rfl (lv_at hl 3 rfl) ?_
                  refine va_get (D := D) (ci := 9) (v := .int gk_118) (C := RX10) (T := TX10) (N := 36) hx hb hts in10 hown hK (va_one at_177) 0 rfl rfl 28 (by decide) (hts (.fieldLink RX10 125 "RiverModelModel" "readKind" "I") (List.mem_of_getElem? (i := 13) rfl)) (fun _ h9 => h9) rfl dX10_swap_130 ?_
                  refine lv_bipush (v := 115) hx hb dX10_swap_133 (by decide) ?_
                  refine lv_icmp_ne (tgt := 142) hx hb dX10_swap_135 (by decide) (fun c_179 => ?_) (fun c_179 => ?_)
                  · skip
                    have c_179 : gk_118.toInt ≠ 115 := q_ne c_179
                    refine lv_iconst (v := 0) hx hb dX10_swap_142 (by decide) ?_
                    refine lv_iload_n hx hb dX10_swap_143 rfl (lv_at hl 1 rfl) ?_
                    refine lv_pc (pc2 := 144) rfl ?_
                    refine lv_icmp_ne (tgt := 183) hx hb dX10_swap_144 (by decide) (fun q => absurd rfl q) (fun _ => ?_)
                    refine lv_aload_n hx hb dX10_swap_147 rfl (lv_at hl 3 rfl) ?_
                    refine va_get (D := D) (ci := 9) (v := .int gk_118) (C := RX10) (T := TX10) (N := 36) hx hb hts in10 hown hK (va_one at_177) 0 rfl rfl 28 (by decide) (hts (.fieldLink RX10 125 "RiverModelModel" "readKind" "I") (List.mem_of_getElem? (i := 13) rfl)) (fun _ h9 => h9) rfl dX10_swap_148 ?_
                    refine lv_bipush (v := 103) hx hb dX10_swap_151 (by decide) ?_
                    refine lv_icmp_ne (tgt := 160) hx hb dX10_swap_153 (by decide) (fun c_180 => ?_) (fun c_180 => ?_)
                    · skip
                      have c_180 : gk_118.toInt ≠ 103 := q_ne c_180
                      refine lv_iconst (v := 0) hx hb dX10_swap_160 (by decide) ?_
                      refine lv_iload hx hb dX10_swap_161 (lv_at hl 0 rfl) ?_
                      refine lv_icmp_ne (tgt := 183) hx hb dX10_swap_163 (by decide) (fun c_181 => ?_) (fun c_181 => ?_)
                      · skip
                        have c_181 : 0 ≠ vj112.toInt := q_ne c_181
                        refine lv_pc (pc2 := 183) rfl ?_
                        refine lv_bipush (v := (-2)) hx hb dX10_swap_183 (by decide) ?_
                        have zi_m2 : ((-2) : Int32).toInt = (-2) := by decide
                        exact tx_iret (z := (ge_117, gk_118, gf_119, gs_120, gg_121, RN_122, K, F, S, N, gS)) hx hb hr hlk hG hS ⟨(show okM K F S N 0 gI.toInt from hO0), (show swM gS K F S N gI.toInt from hW), (show othR gb gS gI K F from hoR), (show smR gb gb gI K F K F from smR.rf), (by show swpR (byT gT gC) gC.toInt gb gI a1 ((-2) : Int32) K F; refine Or.inr (Or.inr ⟨by omega, by omega, by omega, by omega, _, hnE, Or.inl ⟨by omega, ?_⟩⟩); first | exact swY.noE p_127 (by omega) | exact swY.noK (itemAt.at p_127 (by omega)) (by omega))⟩ dX10_swap_185
                      · skip
                        have c_181 : 0 = vj112.toInt := q_eq c_181
                        refine lv_iload_n hx hb dX10_swap_166 rfl (lv_at hl 1 rfl) ?_
                        refine lv_if_eq (tgt := 186) hx hb dX10_swap_167 (by decide) (fun _ => ?_) (fun q => absurd (by decide) q)
                        refine lv_aload_n hx hb dX10_swap_186 rfl (lv_at hl 3 rfl) ?_
                        refine lv_iconst (v := 2) hx hb dX10_swap_187 (by decide) ?_
                        refine lv_iconst (v := 0) hx hb dX10_swap_188 (by decide) ?_
                        have zi_2 : (2 : Int32).toInt = 2 := by decide
                        refine tx_callv (W.runV (As := [.int 2, .int 0]) (rest := []) ⟨hx, hb, hml, hown, hts⟩ (m_X10_copies l D t cI cL cC gC gE gW gA gT gI gS gM K F S N gH gJ ge_117 gk_118 gf_119 gs_120 gg_121 gr RN_122 gb rV rN a0 2 0 80 0 240 0 uq (by omega) (by omega) (by omega) (by omega) (by omega) (by omega) (by omega) (by omega) (by omega) k_a0) (cwV 2 hts gu_X10_swap_X10_copies_170 rfl rfl rfl (by decide +kernel) ⟨Nat.le_of_ble_eq_true rfl, Nat.le_of_ble_eq_true rfl⟩) (tP_V hG hE at_177 rfl) rfl rfl hl.1 rfl (lv_room (Nat.le_of_ble_eq_true rfl)) dX10_swap_189 ⟨Nat.le_of_ble_eq_true rfl, Nat.le_of_ble_eq_true rfl⟩) hS (wrL_sub (by decide)) (fun zz_185 H locs hp_183 hG hS o_184 => ?_)
                        obtain ⟨K_186, F_187, S_188, N_189⟩ := zz_185
                        have at_177 := va_at.keptC at_177 o_184 k_a0 rfl
                        replace hG : tG D (mF cI cL cC gC gE gW gA gT gI gS gM K_186 F_187 S_188 N_189 gH gJ ge_117 gk_118 gf_119 gs_120 gg_121 gr RN_122 gb rV rN) t H := hG
                        have hp_183 : cpd K K_186 80 0 40 ∧ cpd F F_187 80 0 40 ∧ cpd S S_188 80 0 40 ∧ cpd N N_189 240 0 120 := hp_183
                        obtain ⟨p_190, p_191, p_192, p_193⟩ := hp_183
                        refine lv_pc (pc2 := 192) rfl ?_
                        refine lv_aload_n hx hb dX10_swap_192 rfl (lv_at hl 3 rfl) ?_
                        refine lv_iconst (v := 2) hx hb dX10_swap_193 (by decide) ?_
                        refine lv_iload_n hx hb dX10_swap_194 rfl (lv_at hl 4 rfl) ?_
                        refine tx_callv (W.runV (As := [.int 2, .int a1]) (rest := []) ⟨hx, hb, hml, hown, hts⟩ (m_X10_lays l D t cI cL cC gC gE gW gA gT gI gS gM K_186 F_187 S_188 N_189 gH gJ ge_117 gk_118 gf_119 gs_120 gg_121 gr RN_122 gb rV rN a0 2 a1 80 uq (by omega) (by omega) (by omega) (by omega) (by omega) k_a0) (cwV 2 hts gu_X10_swap_X10_lays_155 rfl rfl rfl (by decide +kernel) ⟨Nat.le_of_ble_eq_true rfl, Nat.le_of_ble_eq_true rfl⟩) (tP_V hG hE at_177 rfl) rfl rfl hl.1 rfl (lv_room (Nat.le_of_ble_eq_true rfl)) dX10_swap_195 ⟨Nat.le_of_ble_eq_true rfl, Nat.le_of_ble_eq_true rfl⟩) hS (wrL_sub (by decide)) (fun zz_197 H locs hp_195 hG hS o_196 => ?_)
                        obtain ⟨K_198, F_199, S_200, N_201⟩ := zz_197
                        have at_177 := va_at.keptC at_177 o_196 k_a0 rfl
                        replace hG : tG D (mF cI cL cC gC gE gW gA gT gI gS gM K_198 F_199 S_200 N_201 gH gJ ge_117 gk_118 gf_119 gs_120 gg_121 gr RN_122 gb rV rN) t H := hG
                        have hp_195 : K_198 = upd K_186 (80 + a1.toInt).toNat gk_118 ∧ F_199 = upd F_187 (80 + a1.toInt).toNat gf_119 ∧ S_200 = upd S_188 (80 + a1.toInt).toNat gs_120 ∧ N_201 = upd (upd (upd N_189 (3 * (80 + a1.toInt)).toNat (RN_122 0)) (3 * (80 + a1.toInt) + 1).toNat (RN_122 1)) (3 * (80 + a1.toInt) + 2).toNat (RN_122 2) := hp_195
                        obtain ⟨p_202, p_203, p_204, p_205⟩ := hp_195
                        have ok2 : okM K_186 F_187 S_188 N_189 80 gI.toInt := okM.cpy (a := 80) (b := 0) (by decide) (by decide) (by omega) p_190 p_191 p_192 p_193 hO0
                        have c2 := p_190.1 a1.toInt (by omega) (by omega)
                        have c3 := p_191.1 a1.toInt (by omega) (by omega)
                        have hi7 : gk_118.toInt = 111 → hasS K_186 F_187 80 gI.toInt gf_119 := fun q => hasS.cp (b := 0) (fun j h0 h1 => p_190.1 j h0 (by omega)) (fun j h0 h1 => p_191.1 j h0 (by omega)) ((v58_2 _ p_125.1 p_125.2.1 (p_126 (by omega))).mono (by omega))
                        have ok3 : okM K_198 F_199 S_200 N_201 80 gI.toInt := okM.swp (b := 80) (i := a1.toInt) (by decide) (by omega) p_202 p_203 p_204 p_205 ok2 (fun q => by rw [c2] at q; rw [c3]; exact ⟨by omega, Int32.toInt_inj.mp (by omega)⟩) p_125 hi7
                        have kp0 : kpO K K_198 80 40 := kpO.upd p_190.2 (by decide) (i := 80 + a1.toInt) (by omega) p_202
                        have kp1 : kpO F F_199 80 40 := kpO.upd p_191.2 (by decide) (i := 80 + a1.toInt) (by omega) p_203
                        have kp2 : kpO S S_200 80 40 := kpO.upd p_192.2 (by decide) (i := 80 + a1.toInt) (by omega) p_204
                        have kp3 : kpO N N_201 240 120 := kpO.upd (kpO.upd (kpO.upd p_193.2 (by decide) (i := 3 * (80 + a1.toInt)) (by omega) rfl) (by decide) (i := 3 * (80 + a1.toInt) + 1) (by omega) rfl) (by decide) (i := 3 * (80 + a1.toInt) + 2) (by omega) p_205
                        have ok0 : okM K_198 F_199 S_200 N_201 0 gI.toInt := okM.kpg (a := 80) (a3 := 240) (by decide) (by decide) (by omega) kp0 kp1 kp2 kp3 hO0
                        refine lv_aload_n hx hb dX10_swap_198 rfl (lv_at hl 3 rfl) ?_
                        refine lv_iconst (v := 1) hx hb dX10_swap_199 (by decide) ?_
                        have zi_1 : (1 : Int32).toInt = 1 := by decide
                        refine ty_put (D := D) (ci := 9) (v := .int 1) (ty := .boolean) (C := RX10) (T := TX10) (N := 36) (F2 := (mF cI cL cC gC gE gW gA gT gI 1 gM K_198 F_199 S_200 N_201 gH gJ ge_117 gk_118 gf_119 gs_120 gg_121 gr RN_122 gb rV rN)) hx hb hts in10 tyX10 tyX10_ok nmX10 hown hK hG hS at_177 (by rw [k_a0]; rfl) rfl 8 (by decide) (hts (.fieldLink RX10 177 "RiverModelModel" "isSwapped" "Z") (List.mem_of_getElem? (i := 20) rfl)) (fun _ h9 => h9) rfl (by decide +kernel) (by decide) (by decide) (Nat.le_of_ble_eq_true rfl) (by rw [k_a0]; exact ⟨r_130, r_132, r_134, r_136, r_138, r_140, r_142, r_144, r_146, r_148, r_150, r_152, r_154, r_156, r_158, r_160, r_162, r_164, r_166, r_168, r_170, r_172, v_174, r_175, rfl, h_131, h_133, h_135, h_137, h_139, h_141, h_143, h_145, h_147, h_149, h_151, h_153, h_155, h_157, h_159, h_161, h_163, h_165, h_167, h_169, h_171, h_173, h_176⟩) (fun hG b hb h0 => by obtain ⟨e, g1, g2⟩ := hG b h0; exact ⟨e, g1, mF_gS (fun h => hb (uq b a0 (h.trans k_a0.symm) h0)) g2⟩) dX10_swap_200 (fun H locs hG hS at_206 o_207 => ?_)
                        have at_206 : va_at D vwCl (a0, .inr (9, [.int gC, .ref r_130, .int gb, .int gI, .ref r_132, .ref r_134, .ref r_136, .ref r_138, .int 1, .ref r_140, .ref r_142, .ref r_144, .ref r_146, .int gM, .ref r_148, .ref r_150, .ref r_152, .int gE, .ref r_154, .ref r_156, .ref r_158, .ref r_160, .ref r_162, .ref r_164, .ref r_166, .ref r_168, .ref r_170, .int ge_117, .int gk_118, .int gf_119, .int gs_120, .int gg_121, .ref r_172, .int gr, .int v_174, .ref r_175])) H := at_206
                        refine lv_iconst (v := 0) hx hb dX10_swap_203 (by decide) ?_
                        refine lv_pc (pc2 := 204) rfl ?_
                        exact tx_iret (z := (ge_117, gk_118, gf_119, gs_120, gg_121, RN_122, K_198, F_199, S_200, N_201, 1)) hx hb hr hlk hG hS ⟨(show okM K_198 F_199 S_200 N_201 0 gI.toInt from ok0), (show swM (1 : Int32) K_198 F_199 S_200 N_201 gI.toInt from (Or.inr ok3)), (show othR gb (1 : Int32) gI K_198 F_199 from (fun _ => ⟨by omega, simM.lay p_190 p_191 p_202 p_203 ⟨by omega, by omega, by omega⟩ (by omega) (by omega) (by omega)⟩)), (show smR gb gb gI K F K_198 F_199 from (smR.kp8 kp0 kp1 (by omega))), (by show swpR (byT gT gC) gC.toInt gb gI a1 (0 : Int32) K F; exact Or.inr (Or.inr ⟨by omega, by omega, by omega, by omega, _, hnE, Or.inr ⟨by omega, _, _, _, _, _, _, itemAt.at p_127 (by omega), p_128, by omega, by omega, by omega⟩⟩))⟩ dX10_swap_204
                    · skip
                      have c_180 : gk_118.toInt = 103 := q_eq c_180
                      refine lv_iconst (v := 1) hx hb dX10_swap_156 (by decide) ?_
                      refine lv_goto (tgt := 161) hx hb dX10_swap_157 (by decide) ?_
                      refine lv_iload hx hb dX10_swap_161 (lv_at hl 0 rfl) ?_
                      refine lv_icmp_ne (tgt := 183) hx hb dX10_swap_163 (by decide) (fun c_208 => ?_) (fun c_208 => ?_)
                      · skip
                        have c_208 : 1 ≠ vj112.toInt := q_ne c_208
                        refine lv_bipush (v := (-2)) hx hb dX10_swap_183 (by decide) ?_
                        have zi_m2 : ((-2) : Int32).toInt = (-2) := by decide
                        exact tx_iret (z := (ge_117, gk_118, gf_119, gs_120, gg_121, RN_122, K, F, S, N, gS)) hx hb hr hlk hG hS ⟨(show okM K F S N 0 gI.toInt from hO0), (show swM gS K F S N gI.toInt from hW), (show othR gb gS gI K F from hoR), (show smR gb gb gI K F K F from smR.rf), (by show swpR (byT gT gC) gC.toInt gb gI a1 ((-2) : Int32) K F; refine Or.inr (Or.inr ⟨by omega, by omega, by omega, by omega, _, hnE, Or.inl ⟨by omega, ?_⟩⟩); first | exact swY.noE p_127 (by omega) | exact swY.noK (itemAt.at p_127 (by omega)) (by omega))⟩ dX10_swap_185
                      · skip
                        have c_208 : 1 = vj112.toInt := q_eq c_208
                        refine lv_iload_n hx hb dX10_swap_166 rfl (lv_at hl 1 rfl) ?_
                        refine lv_pc (pc2 := 167) rfl ?_
                        refine lv_if_eq (tgt := 186) hx hb dX10_swap_167 (by decide) (fun _ => ?_) (fun q => absurd (by decide) q)
                        refine lv_aload_n hx hb dX10_swap_186 rfl (lv_at hl 3 rfl) ?_
                        refine lv_iconst (v := 2) hx hb dX10_swap_187 (by decide) ?_
                        refine lv_iconst (v := 0) hx hb dX10_swap_188 (by decide) ?_
                        have zi_2 : (2 : Int32).toInt = 2 := by decide
                        refine tx_callv (W.runV (As := [.int 2, .int 0]) (rest := []) ⟨hx, hb, hml, hown, hts⟩ (m_X10_copies l D t cI cL cC gC gE gW gA gT gI gS gM K F S N gH gJ ge_117 gk_118 gf_119 gs_120 gg_121 gr RN_122 gb rV rN a0 2 0 80 0 240 0 uq (by omega) (by omega) (by omega) (by omega) (by omega) (by omega) (by omega) (by omega) (by omega) k_a0) (cwV 2 hts gu_X10_swap_X10_copies_170 rfl rfl rfl (by decide +kernel) ⟨Nat.le_of_ble_eq_true rfl, Nat.le_of_ble_eq_true rfl⟩) (tP_V hG hE at_177 rfl) rfl rfl hl.1 rfl (lv_room (Nat.le_of_ble_eq_true rfl)) dX10_swap_189 ⟨Nat.le_of_ble_eq_true rfl, Nat.le_of_ble_eq_true rfl⟩) hS (wrL_sub (by decide)) (fun zz_212 H locs hp_210 hG hS o_211 => ?_)
                        obtain ⟨K_213, F_214, S_215, N_216⟩ := zz_212
                        have at_177 := va_at.keptC at_177 o_211 k_a0 rfl
                        replace hG : tG D (mF cI cL cC gC gE gW gA gT gI gS gM K_213 F_214 S_215 N_216 gH gJ ge_117 gk_118 gf_119 gs_120 gg_121 gr RN_122 gb rV rN) t H := hG
                        have hp_210 : cpd K K_213 80 0 40 ∧ cpd F F_214 80 0 40 ∧ cpd S S_215 80 0 40 ∧ cpd N N_216 240 0 120 := hp_210
                        obtain ⟨p_217, p_218, p_219, p_220⟩ := hp_210
                        refine lv_aload_n hx hb dX10_swap_192 rfl (lv_at hl 3 rfl) ?_
                        refine lv_iconst (v := 2) hx hb dX10_swap_193 (by decide) ?_
                        refine lv_iload_n hx hb dX10_swap_194 rfl (lv_at hl 4 rfl) ?_
                        refine lv_pc (pc2 := 195) rfl ?_
                        refine tx_callv (W.runV (As := [.int 2, .int a1]) (rest := []) ⟨hx, hb, hml, hown, hts⟩ (m_X10_lays l D t cI cL cC gC gE gW gA gT gI gS gM K_213 F_214 S_215 N_216 gH gJ ge_117 gk_118 gf_119 gs_120 gg_121 gr RN_122 gb rV rN a0 2 a1 80 uq (by omega) (by omega) (by omega) (by omega) (by omega) k_a0) (cwV 2 hts gu_X10_swap_X10_lays_155 rfl rfl rfl (by decide +kernel) ⟨Nat.le_of_ble_eq_true rfl, Nat.le_of_ble_eq_true rfl⟩) (tP_V hG hE at_177 rfl) rfl rfl hl.1 rfl (lv_room (Nat.le_of_ble_eq_true rfl)) dX10_swap_195 ⟨Nat.le_of_ble_eq_true rfl, Nat.le_of_ble_eq_true rfl⟩) hS (wrL_sub (by decide)) (fun zz_224 H locs hp_222 hG hS o_223 => ?_)
                        obtain ⟨K_225, F_226, S_227, N_228⟩ := zz_224
                        have at_177 := va_at.keptC at_177 o_223 k_a0 rfl
                        replace hG : tG D (mF cI cL cC gC gE gW gA gT gI gS gM K_225 F_226 S_227 N_228 gH gJ ge_117 gk_118 gf_119 gs_120 gg_121 gr RN_122 gb rV rN) t H := hG
                        have hp_222 : K_225 = upd K_213 (80 + a1.toInt).toNat gk_118 ∧ F_226 = upd F_214 (80 + a1.toInt).toNat gf_119 ∧ S_227 = upd S_215 (80 + a1.toInt).toNat gs_120 ∧ N_228 = upd (upd (upd N_216 (3 * (80 + a1.toInt)).toNat (RN_122 0)) (3 * (80 + a1.toInt) + 1).toNat (RN_122 1)) (3 * (80 + a1.toInt) + 2).toNat (RN_122 2) := hp_222
                        obtain ⟨p_229, p_230, p_231, p_232⟩ := hp_222
                        have ok2 : okM K_213 F_214 S_215 N_216 80 gI.toInt := okM.cpy (a := 80) (b := 0) (by decide) (by decide) (by omega) p_217 p_218 p_219 p_220 hO0
                        have c2 := p_217.1 a1.toInt (by omega) (by omega)
                        have c3 := p_218.1 a1.toInt (by omega) (by omega)
                        have hi7 : gk_118.toInt = 111 → hasS K_213 F_214 80 gI.toInt gf_119 := fun q => hasS.cp (b := 0) (fun j h0 h1 => p_217.1 j h0 (by omega)) (fun j h0 h1 => p_218.1 j h0 (by omega)) ((v58_2 _ p_125.1 p_125.2.1 (p_126 (by omega))).mono (by omega))
                        have ok3 : okM K_225 F_226 S_227 N_228 80 gI.toInt := okM.swp (b := 80) (i := a1.toInt) (by decide) (by omega) p_229 p_230 p_231 p_232 ok2 (fun q => by rw [c2] at q; rw [c3]; exact ⟨by omega, Int32.toInt_inj.mp (by omega)⟩) p_125 hi7
                        have kp0 : kpO K K_225 80 40 := kpO.upd p_217.2 (by decide) (i := 80 + a1.toInt) (by omega) p_229
                        have kp1 : kpO F F_226 80 40 := kpO.upd p_218.2 (by decide) (i := 80 + a1.toInt) (by omega) p_230
                        have kp2 : kpO S S_227 80 40 := kpO.upd p_219.2 (by decide) (i := 80 + a1.toInt) (by omega) p_231
                        have kp3 : kpO N N_228 240 120 := kpO.upd (kpO.upd (kpO.upd p_220.2 (by decide) (i := 3 * (80 + a1.toInt)) (by omega) rfl) (by decide) (i := 3 * (80 + a1.toInt) + 1) (by omega) rfl) (by decide) (i := 3 * (80 + a1.toInt) + 2) (by omega) p_232
                        have ok0 : okM K_225 F_226 S_227 N_228 0 gI.toInt := okM.kpg (a := 80) (a3 := 240) (by decide) (by decide) (by omega) kp0 kp1 kp2 kp3 hO0
                        refine lv_aload_n hx hb dX10_swap_198 rfl (lv_at hl 3 rfl) ?_
                        refine lv_iconst (v := 1) hx hb dX10_swap_199 (by decide) ?_
                        have zi_1 : (1 : Int32).toInt = 1 := by decide
                        refine ty_put (D := D) (ci := 9) (v := .int 1) (ty := .boolean) (C := RX10) (T := TX10) (N := 36) (F2 := (mF cI cL cC gC gE gW gA gT gI 1 gM K_225 F_226 S_227 N_228 gH gJ ge_117 gk_118 gf_119 gs_120 gg_121 gr RN_122 gb rV rN)) hx hb hts in10 tyX10 tyX10_ok nmX10 hown hK hG hS at_177 (by rw [k_a0]; rfl) rfl 8 (by decide) (hts (.fieldLink RX10 177 "RiverModelModel" "isSwapped" "Z") (List.mem_of_getElem? (i := 20) rfl)) (fun _ h9 => h9) rfl (by decide +kernel) (by decide) (by decide) (Nat.le_of_ble_eq_true rfl) (by rw [k_a0]; exact ⟨r_130, r_132, r_134, r_136, r_138, r_140, r_142, r_144, r_146, r_148, r_150, r_152, r_154, r_156, r_158, r_160, r_162, r_164, r_166, r_168, r_170, r_172, v_174, r_175, rfl, h_131, h_133, h_135, h_137, h_139, h_141, h_143, h_145, h_147, h_149, h_151, h_153, h_155, h_157, h_159, h_161, h_163, h_165, h_167, h_169, h_171, h_173, h_176⟩) (fun hG b hb h0 => by obtain ⟨e, g1, g2⟩ := hG b h0; exact ⟨e, g1, mF_gS (fun h => hb (uq b a0 (h.trans k_a0.symm) h0)) g2⟩) dX10_swap_200 (fun H locs hG hS at_233 o_234 => ?_)
                        have at_233 : va_at D vwCl (a0, .inr (9, [.int gC, .ref r_130, .int gb, .int gI, .ref r_132, .ref r_134, .ref r_136, .ref r_138, .int 1, .ref r_140, .ref r_142, .ref r_144, .ref r_146, .int gM, .ref r_148, .ref r_150, .ref r_152, .int gE, .ref r_154, .ref r_156, .ref r_158, .ref r_160, .ref r_162, .ref r_164, .ref r_166, .ref r_168, .ref r_170, .int ge_117, .int gk_118, .int gf_119, .int gs_120, .int gg_121, .ref r_172, .int gr, .int v_174, .ref r_175])) H := at_233
                        refine lv_iconst (v := 0) hx hb dX10_swap_203 (by decide) ?_
                        exact tx_iret (z := (ge_117, gk_118, gf_119, gs_120, gg_121, RN_122, K_225, F_226, S_227, N_228, 1)) hx hb hr hlk hG hS ⟨(show okM K_225 F_226 S_227 N_228 0 gI.toInt from ok0), (show swM (1 : Int32) K_225 F_226 S_227 N_228 gI.toInt from (Or.inr ok3)), (show othR gb (1 : Int32) gI K_225 F_226 from (fun _ => ⟨by omega, simM.lay p_217 p_218 p_229 p_230 ⟨by omega, by omega, by omega⟩ (by omega) (by omega) (by omega)⟩)), (show smR gb gb gI K F K_225 F_226 from (smR.kp8 kp0 kp1 (by omega))), (by show swpR (byT gT gC) gC.toInt gb gI a1 (0 : Int32) K F; exact Or.inr (Or.inr ⟨by omega, by omega, by omega, by omega, _, hnE, Or.inr ⟨by omega, _, _, _, _, _, _, itemAt.at p_127 (by omega), p_128, by omega, by omega, by omega⟩⟩))⟩ dX10_swap_204
                  · skip
                    have c_179 : gk_118.toInt = 115 := q_eq c_179
                    refine lv_iconst (v := 1) hx hb dX10_swap_138 (by decide) ?_
                    refine lv_goto (tgt := 143) hx hb dX10_swap_139 (by decide) ?_
                    refine lv_pc (pc2 := 143) rfl ?_
                    refine lv_iload_n hx hb dX10_swap_143 rfl (lv_at hl 1 rfl) ?_
                    refine lv_icmp_ne (tgt := 183) hx hb dX10_swap_144 (by decide) (fun _ => ?_) (fun q => absurd q (by decide))
                    refine lv_bipush (v := (-2)) hx hb dX10_swap_183 (by decide) ?_
                    have zi_m2 : ((-2) : Int32).toInt = (-2) := by decide
                    exact tx_iret (z := (ge_117, gk_118, gf_119, gs_120, gg_121, RN_122, K, F, S, N, gS)) hx hb hr hlk hG hS ⟨(show okM K F S N 0 gI.toInt from hO0), (show swM gS K F S N gI.toInt from hW), (show othR gb gS gI K F from hoR), (show smR gb gb gI K F K F from smR.rf), (by show swpR (byT gT gC) gC.toInt gb gI a1 ((-2) : Int32) K F; refine Or.inr (Or.inr ⟨by omega, by omega, by omega, by omega, _, hnE, Or.inl ⟨by omega, ?_⟩⟩); first | exact swY.noE p_127 (by omega) | exact swY.noK (itemAt.at p_127 (by omega)) (by omega))⟩ dX10_swap_185
              · skip
                rw [zi_0] at p_129
                refine lv_if_eq (tgt := 183) hx hb dX10_swap_115 (by decide) (fun _ => ?_) (fun q => absurd (by decide) q)
                refine lv_bipush (v := (-2)) hx hb dX10_swap_183 (by decide) ?_
                have zi_m2 : ((-2) : Int32).toInt = (-2) := by decide
                exact tx_iret (z := (ge_117, gk_118, gf_119, gs_120, gg_121, RN_122, K, F, S, N, gS)) hx hb hr hlk hG hS ⟨(show okM K F S N 0 gI.toInt from hO0), (show swM gS K F S N gI.toInt from hW), (show othR gb gS gI K F from hoR), (show smR gb gb gI K F K F from smR.rf), (by show swpR (byT gT gC) gC.toInt gb gI a1 ((-2) : Int32) K F; exact Or.inr (Or.inr ⟨by omega, by omega, by omega, by omega, _, hnE, Or.inl ⟨by omega, swY.noV p_129⟩⟩))⟩ dX10_swap_185
            refine (hWW112 _ _ _).mpr ?_
            refine lv_aload_n hx hb dX10_swap_90 rfl (lv_at hl 2 rfl) ?_
            refine lv_pc (pc2 := 91) rfl ?_
            refine va_get (D := D) (ci := 9) (v := .ref r_61) (C := RX10) (T := TX10) (N := 36) hx hb hts in10 hown hK (va_one at_106) 0 rfl rfl 4 (by decide) (hts (.fieldLink RX10 13 "RiverModelModel" "kind" "[I") (List.mem_of_getElem? (i := 7) rfl)) (fun _ h9 => h9) rfl dX10_swap_91 ?_
            refine lv_iload_n hx hb dX10_swap_94 rfl (lv_at hl 3 rfl) ?_
            have b_235 : vp_in a1 120 := (q_in (by omega) (by omega))
            refine va_iald hx hb hK (va_one at_107) 0 0 rfl rfl b_235 dX10_swap_95 ?_
            refine lv_seti (y := x_109) e_110.symm ?_
            refine lv_bipush (v := 103) hx hb dX10_swap_96 (by decide) ?_
            refine lv_icmp_ne (tgt := 105) hx hb dX10_swap_98 (by decide) (fun c_236 => ?_) (fun c_236 => ?_)
            · skip
              have c_236 : x_109.toInt ≠ 103 := q_ne c_236
              refine lv_iconst (v := 0) hx hb dX10_swap_105 (by decide) ?_
              have zi_0 : (0 : Int32).toInt = 0 := by decide
              exact (hWW112 _ _ _).mp (jn112 0 (by omega) (by omega) (by omega))
            · skip
              have c_236 : x_109.toInt = 103 := q_eq c_236
              refine lv_iconst (v := 1) hx hb dX10_swap_101 (by decide) ?_
              refine lv_goto (tgt := 106) hx hb dX10_swap_102 (by decide) ?_
              have zi_1 : (1 : Int32).toInt = 1 := by decide
              exact (hWW112 _ _ _).mp (jn112 1 (by omega) (by omega) (by omega))
          · skip
            have c_111 : x_109.toInt = 115 := q_eq c_111
            refine lv_pc (pc2 := 84) rfl ?_
            refine lv_iconst (v := 1) hx hb dX10_swap_84 (by decide) ?_
            refine lv_goto (tgt := 89) hx hb dX10_swap_85 (by decide) ?_
            refine lv_istore_n (lv' := [(3, .int 1), (2, .int yn), (0, .ref a0), (1, .int a1)]) hx hb dX10_swap_89 rfl hl (by decide) rfl (fun ls hl => ?_)
            refine lv_pc (pc2 := 90) rfl ?_
            refine lp_gen (fun WW237 hWW237 => ?_)
            have jn237 : ∀ (vj237 : Int32), (0 ≤ vj237.toInt) → (vj237.toInt ≤ 1) → (vj237.toInt = 1 ↔ (K (0 + a1.toInt).toNat).toInt = 103) → WW237 H locs (F0 m 106 ls (.int vj237 :: [])) := by
              intro vj237 fj237_0 fj237_1 fj237_2
              refine (hWW237 _ _ _).mpr ?_
              refine lv_istore (lv' := [(4, .int vj237), (3, .int 1), (2, .int yn), (0, .ref a0), (1, .int a1)]) hx hb dX10_swap_106 hl (by decide) rfl (fun ls hl => ?_)
              refine lv_aload_n hx hb dX10_swap_108 rfl (lv_at hl 3 rfl) ?_
              refine lv_iconst (v := 0) hx hb dX10_swap_109 (by decide) ?_
              refine lv_iload_n hx hb dX10_swap_110 rfl (lv_at hl 2 rfl) ?_
              refine lv_iconst (v := 0) hx hb dX10_swap_111 (by decide) ?_
              refine lv_pc (pc2 := 112) rfl ?_
              have zi_0 : (0 : Int32).toInt = 0 := by decide
              refine tx_calli (W.runV (As := [.int 0, .int yn, .int 0]) (rest := []) ⟨hx, hb, hml, hown, hts⟩ (m_X10_readsItem l D t cI cL cC gC gE gW gA gT gI gS gM K F S N gH gJ ge gk gf gs gg gr RN gb rV rN a0 0 yn 0  uq (by omega) (by omega) (by omega) (by omega) k_a0) (cwV 3 hts gu_X10_swap_X10_readsItem_151 rfl rfl rfl (by decide +kernel) ⟨Nat.le_of_ble_eq_true rfl, Nat.le_of_ble_eq_true rfl⟩) (tP_V hG hE at_106 rfl) rfl rfl hl.1 rfl (lv_room (Nat.le_of_ble_eq_true rfl)) dX10_swap_112 ⟨Nat.le_of_ble_eq_true rfl, Nat.le_of_ble_eq_true rfl⟩) hS (wrL_sub (by decide)) (fun r_238 zz_241 H locs hp_239 hG hS o_240 => ?_)
              obtain ⟨ge_242, gk_243, gf_244, gs_245, gg_246, RN_247⟩ := zz_241
              have at_107 := va_at.keptC at_107 o_240 h_62 rfl
              replace hG : tG D (mF cI cL cC gC gE gW gA gT gI gS gM K F S N gH gJ ge_242 gk_243 gf_244 gs_245 gg_246 gr RN_247 gb rV rN) t H := hG
              have hp_239 : (r_238 = 1 ∧ (0 : Int32).toInt < ge_242.toInt ∧ ge_242.toInt ≤ (0 : Int32).toInt + 40 ∧ itOk gk_243 gf_244 gs_245 (RN_247 0) (RN_247 1) ∧ nmOk gk_243 gf_244 yn ∧ itemAt (byT gT gC) (0 : Int32).toInt gk_243 gf_244 gs_245 (RN_247 0) (RN_247 1) (RN_247 2) ge_242.toInt ∧ okIt yn (0 : Int32).toInt gk_243 gf_244 gs_245 (RN_247 0) (RN_247 1) (RN_247 2)) ∨ (r_238 = 0 ∧ noVit (byT gT gC) (0 : Int32).toInt yn (0 : Int32).toInt) := hp_239
              rcases hp_239 with ⟨rfl, p_248, p_249, p_250, p_251, p_252, p_253⟩ | ⟨rfl, p_254⟩
              · skip
                rw [zi_0] at p_252 p_253
                refine lv_if_eq (tgt := 183) hx hb dX10_swap_115 (by decide) (fun q => absurd q (by decide)) (fun _ => ?_)
                refine lv_aload_n hx hb dX10_swap_118 rfl (lv_at hl 3 rfl) ?_
                obtain ⟨r_255, r_257, r_259, r_261, r_263, r_265, r_267, r_269, r_271, r_273, r_275, r_277, r_279, r_281, r_283, r_285, r_287, r_289, r_291, r_293, r_295, r_297, v_299, r_300, at_302, h_256, h_258, h_260, h_262, h_264, h_266, h_268, h_270, h_272, h_274, h_276, h_278, h_280, h_282, h_284, h_286, h_288, h_290, h_292, h_294, h_296, h_298, h_301⟩ := mF_o40 hG k_a0
                refine va_get (D := D) (ci := 9) (v := .int ge_242) (C := RX10) (T := TX10) (N := 36) hx hb hts in10 hown hK (va_one at_302) 0 rfl rfl 27 (by decide) (hts (.fieldLink RX10 109 "RiverModelModel" "end" "I") (List.mem_of_getElem? (i := 11) rfl)) (fun _ h9 => h9) rfl dX10_swap_119 ?_
                refine lv_aload_n hx hb dX10_swap_122 rfl (lv_at hl 3 rfl) ?_
                refine va_get (D := D) (ci := 9) (v := .int gC) (C := RX10) (T := TX10) (N := 36) hx hb hts in10 hown hK (va_one at_302) 0 rfl rfl 0 (by decide) (hts (.fieldLink RX10 89 "RiverModelModel" "length" "I") (List.mem_of_getElem? (i := 12) rfl)) (fun _ h9 => h9) rfl dX10_swap_123 ?_
                refine lv_icmp_ne (tgt := 183) hx hb dX10_swap_126 (by decide) (fun c_303 => ?_) (fun c_303 => ?_)
                · skip
                  have c_303 : ge_242.toInt ≠ gC.toInt := q_ne c_303
                  refine lv_bipush (v := (-2)) hx hb dX10_swap_183 (by decide) ?_
                  refine lv_pc (pc2 := 185) rfl ?_
                  have zi_m2 : ((-2) : Int32).toInt = (-2) := by decide
                  exact tx_iret (z := (ge_242, gk_243, gf_244, gs_245, gg_246, RN_247, K, F, S, N, gS)) hx hb hr hlk hG hS ⟨(show okM K F S N 0 gI.toInt from hO0), (show swM gS K F S N gI.toInt from hW), (show othR gb gS gI K F from hoR), (show smR gb gb gI K F K F from smR.rf), (by show swpR (byT gT gC) gC.toInt gb gI a1 ((-2) : Int32) K F; refine Or.inr (Or.inr ⟨by omega, by omega, by omega, by omega, _, hnE, Or.inl ⟨by omega, ?_⟩⟩); first | exact swY.noE p_252 (by omega) | exact swY.noK (itemAt.at p_252 (by omega)) (by omega))⟩ dX10_swap_185
                · skip
                  have c_303 : ge_242.toInt = gC.toInt := q_eq c_303
                  refine lv_aload_n hx hb dX10_swap_129 rfl (lv_at hl 3 rfl) ?_
                  refine va_get (D := D) (ci := 9) (v := .int gk_243) (C := RX10) (T := TX10) (N := 36) hx hb hts in10 hown hK (va_one at_302) 0 rfl rfl 28 (by decide) (hts (.fieldLink RX10 125 "RiverModelModel" "readKind" "I") (List.mem_of_getElem? (i := 13) rfl)) (fun _ h9 => h9) rfl dX10_swap_130 ?_
                  refine lv_bipush (v := 115) hx hb dX10_swap_133 (by decide) ?_
                  refine lv_icmp_ne (tgt := 142) hx hb dX10_swap_135 (by decide) (fun c_304 => ?_) (fun c_304 => ?_)
                  · skip
                    have c_304 : gk_243.toInt ≠ 115 := q_ne c_304
                    refine lv_iconst (v := 0) hx hb dX10_swap_142 (by decide) ?_
                    refine lv_iload_n hx hb dX10_swap_143 rfl (lv_at hl 1 rfl) ?_
                    refine lv_icmp_ne (tgt := 183) hx hb dX10_swap_144 (by decide) (fun _ => ?_) (fun q => absurd q (by decide))
                    refine lv_pc (pc2 := 183) rfl ?_
                    refine lv_bipush (v := (-2)) hx hb dX10_swap_183 (by decide) ?_
                    have zi_m2 : ((-2) : Int32).toInt = (-2) := by decide
                    exact tx_iret (z := (ge_242, gk_243, gf_244, gs_245, gg_246, RN_247, K, F, S, N, gS)) hx hb hr hlk hG hS ⟨(show okM K F S N 0 gI.toInt from hO0), (show swM gS K F S N gI.toInt from hW), (show othR gb gS gI K F from hoR), (show smR gb gb gI K F K F from smR.rf), (by show swpR (byT gT gC) gC.toInt gb gI a1 ((-2) : Int32) K F; refine Or.inr (Or.inr ⟨by omega, by omega, by omega, by omega, _, hnE, Or.inl ⟨by omega, ?_⟩⟩); first | exact swY.noE p_252 (by omega) | exact swY.noK (itemAt.at p_252 (by omega)) (by omega))⟩ dX10_swap_185
                  · skip
                    have c_304 : gk_243.toInt = 115 := q_eq c_304
                    refine lv_iconst (v := 1) hx hb dX10_swap_138 (by decide) ?_
                    refine lv_goto (tgt := 143) hx hb dX10_swap_139 (by decide) ?_
                    refine lv_iload_n hx hb dX10_swap_143 rfl (lv_at hl 1 rfl) ?_
                    refine lv_icmp_ne (tgt := 183) hx hb dX10_swap_144 (by decide) (fun q => absurd rfl q) (fun _ => ?_)
                    refine lv_aload_n hx hb dX10_swap_147 rfl (lv_at hl 3 rfl) ?_
                    refine va_get (D := D) (ci := 9) (v := .int gk_243) (C := RX10) (T := TX10) (N := 36) hx hb hts in10 hown hK (va_one at_302) 0 rfl rfl 28 (by decide) (hts (.fieldLink RX10 125 "RiverModelModel" "readKind" "I") (List.mem_of_getElem? (i := 13) rfl)) (fun _ h9 => h9) rfl dX10_swap_148 ?_
                    refine lv_pc (pc2 := 151) rfl ?_
                    refine lv_bipush (v := 103) hx hb dX10_swap_151 (by decide) ?_
                    refine lv_icmp_ne (tgt := 160) hx hb dX10_swap_153 (by decide) (fun c_305 => ?_) (fun c_305 => ?_)
                    · skip
                      have c_305 : gk_243.toInt ≠ 103 := q_ne c_305
                      refine lv_iconst (v := 0) hx hb dX10_swap_160 (by decide) ?_
                      refine lv_iload hx hb dX10_swap_161 (lv_at hl 0 rfl) ?_
                      refine lv_icmp_ne (tgt := 183) hx hb dX10_swap_163 (by decide) (fun c_306 => ?_) (fun c_306 => ?_)
                      · skip
                        have c_306 : 0 ≠ vj237.toInt := q_ne c_306
                        refine lv_bipush (v := (-2)) hx hb dX10_swap_183 (by decide) ?_
                        have zi_m2 : ((-2) : Int32).toInt = (-2) := by decide
                        exact tx_iret (z := (ge_242, gk_243, gf_244, gs_245, gg_246, RN_247, K, F, S, N, gS)) hx hb hr hlk hG hS ⟨(show okM K F S N 0 gI.toInt from hO0), (show swM gS K F S N gI.toInt from hW), (show othR gb gS gI K F from hoR), (show smR gb gb gI K F K F from smR.rf), (by show swpR (byT gT gC) gC.toInt gb gI a1 ((-2) : Int32) K F; refine Or.inr (Or.inr ⟨by omega, by omega, by omega, by omega, _, hnE, Or.inl ⟨by omega, ?_⟩⟩); first | exact swY.noE p_252 (by omega) | exact swY.noK (itemAt.at p_252 (by omega)) (by omega))⟩ dX10_swap_185
                      · skip
                        have c_306 : 0 = vj237.toInt := q_eq c_306
                        refine lv_iload_n hx hb dX10_swap_166 rfl (lv_at hl 1 rfl) ?_
                        refine lv_pc (pc2 := 167) rfl ?_
                        refine lv_if_eq (tgt := 186) hx hb dX10_swap_167 (by decide) (fun q => absurd q (by decide)) (fun _ => ?_)
                        refine lv_aload_n hx hb dX10_swap_170 rfl (lv_at hl 3 rfl) ?_
                        refine va_get (D := D) (ci := 9) (v := .int gf_244) (C := RX10) (T := TX10) (N := 36) hx hb hts in10 hown hK (va_one at_302) 0 rfl rfl 29 (by decide) (hts (.fieldLink RX10 135 "RiverModelModel" "readFirst" "I") (List.mem_of_getElem? (i := 21) rfl)) (fun _ h9 => h9) rfl dX10_swap_171 ?_
                        refine lv_aload_n hx hb dX10_swap_174 rfl (lv_at hl 3 rfl) ?_
                        refine va_get (D := D) (ci := 9) (v := .ref r_259) (C := RX10) (T := TX10) (N := 36) hx hb hts in10 hown hK (va_one at_302) 0 rfl rfl 5 (by decide) (hts (.fieldLink RX10 16 "RiverModelModel" "first" "[I") (List.mem_of_getElem? (i := 22) rfl)) (fun _ h9 => h9) rfl dX10_swap_175 ?_
                        refine lv_iload_n hx hb dX10_swap_178 rfl (lv_at hl 4 rfl) ?_
                        have at_307 := mF_o43 hG h_260
                        have b_308 : vp_in a1 120 := (q_in (by omega) (by omega))
                        refine va_iald hx hb hK (va_one at_307) 0 0 rfl rfl b_308 dX10_swap_179 ?_
                        refine lv_topi (fun x_309 e_310 => ?_)
                        have w_x_309 : x_309 = F (0 + a1.toInt).toNat := by rw [e_310]; exact congrArg (fun q : Int => F q.toNat) (show a1.toInt = 0 + a1.toInt by omega)
                        have i_x_309 : x_309.toInt = (F (0 + a1.toInt).toNat).toInt := by rw [w_x_309]
                        refine lv_icmp_eq (tgt := 186) hx hb dX10_swap_180 (by decide) (fun c_311 => ?_) (fun c_311 => ?_)
                        · skip
                          have c_311 : gf_244.toInt = x_309.toInt := q_eq c_311
                          refine lv_pc (pc2 := 186) rfl ?_
                          refine lv_aload_n hx hb dX10_swap_186 rfl (lv_at hl 3 rfl) ?_
                          refine lv_iconst (v := 2) hx hb dX10_swap_187 (by decide) ?_
                          refine lv_iconst (v := 0) hx hb dX10_swap_188 (by decide) ?_
                          have zi_2 : (2 : Int32).toInt = 2 := by decide
                          refine tx_callv (W.runV (As := [.int 2, .int 0]) (rest := []) ⟨hx, hb, hml, hown, hts⟩ (m_X10_copies l D t cI cL cC gC gE gW gA gT gI gS gM K F S N gH gJ ge_242 gk_243 gf_244 gs_245 gg_246 gr RN_247 gb rV rN a0 2 0 80 0 240 0 uq (by omega) (by omega) (by omega) (by omega) (by omega) (by omega) (by omega) (by omega) (by omega) k_a0) (cwV 2 hts gu_X10_swap_X10_copies_170 rfl rfl rfl (by decide +kernel) ⟨Nat.le_of_ble_eq_true rfl, Nat.le_of_ble_eq_true rfl⟩) (tP_V hG hE at_302 rfl) rfl rfl hl.1 rfl (lv_room (Nat.le_of_ble_eq_true rfl)) dX10_swap_189 ⟨Nat.le_of_ble_eq_true rfl, Nat.le_of_ble_eq_true rfl⟩) hS (wrL_sub (by decide)) (fun zz_315 H locs hp_313 hG hS o_314 => ?_)
                          obtain ⟨K_316, F_317, S_318, N_319⟩ := zz_315
                          have at_302 := va_at.keptC at_302 o_314 k_a0 rfl
                          replace hG : tG D (mF cI cL cC gC gE gW gA gT gI gS gM K_316 F_317 S_318 N_319 gH gJ ge_242 gk_243 gf_244 gs_245 gg_246 gr RN_247 gb rV rN) t H := hG
                          have hp_313 : cpd K K_316 80 0 40 ∧ cpd F F_317 80 0 40 ∧ cpd S S_318 80 0 40 ∧ cpd N N_319 240 0 120 := hp_313
                          obtain ⟨p_320, p_321, p_322, p_323⟩ := hp_313
                          refine lv_aload_n hx hb dX10_swap_192 rfl (lv_at hl 3 rfl) ?_
                          refine lv_iconst (v := 2) hx hb dX10_swap_193 (by decide) ?_
                          refine lv_iload_n hx hb dX10_swap_194 rfl (lv_at hl 4 rfl) ?_
                          refine tx_callv (W.runV (As := [.int 2, .int a1]) (rest := []) ⟨hx, hb, hml, hown, hts⟩ (m_X10_lays l D t cI cL cC gC gE gW gA gT gI gS gM K_316 F_317 S_318 N_319 gH gJ ge_242 gk_243 gf_244 gs_245 gg_246 gr RN_247 gb rV rN a0 2 a1 80 uq (by omega) (by omega) (by omega) (by omega) (by omega) k_a0) (cwV 2 hts gu_X10_swap_X10_lays_155 rfl rfl rfl (by decide +kernel) ⟨Nat.le_of_ble_eq_true rfl, Nat.le_of_ble_eq_true rfl⟩) (tP_V hG hE at_302 rfl) rfl rfl hl.1 rfl (lv_room (Nat.le_of_ble_eq_true rfl)) dX10_swap_195 ⟨Nat.le_of_ble_eq_true rfl, Nat.le_of_ble_eq_true rfl⟩) hS (wrL_sub (by decide)) (fun zz_327 H locs hp_325 hG hS o_326 => ?_)
                          obtain ⟨K_328, F_329, S_330, N_331⟩ := zz_327
                          have at_302 := va_at.keptC at_302 o_326 k_a0 rfl
                          replace hG : tG D (mF cI cL cC gC gE gW gA gT gI gS gM K_328 F_329 S_330 N_331 gH gJ ge_242 gk_243 gf_244 gs_245 gg_246 gr RN_247 gb rV rN) t H := hG
                          have hp_325 : K_328 = upd K_316 (80 + a1.toInt).toNat gk_243 ∧ F_329 = upd F_317 (80 + a1.toInt).toNat gf_244 ∧ S_330 = upd S_318 (80 + a1.toInt).toNat gs_245 ∧ N_331 = upd (upd (upd N_319 (3 * (80 + a1.toInt)).toNat (RN_247 0)) (3 * (80 + a1.toInt) + 1).toNat (RN_247 1)) (3 * (80 + a1.toInt) + 2).toNat (RN_247 2) := hp_325
                          obtain ⟨p_332, p_333, p_334, p_335⟩ := hp_325
                          have ok2 : okM K_316 F_317 S_318 N_319 80 gI.toInt := okM.cpy (a := 80) (b := 0) (by decide) (by decide) (by omega) p_320 p_321 p_322 p_323 hO0
                          have c2 := p_320.1 a1.toInt (by omega) (by omega)
                          have c3 := p_321.1 a1.toInt (by omega) (by omega)
                          have hi7 : gk_243.toInt = 111 → hasS K_316 F_317 80 gI.toInt gf_244 := fun q => hasS.cp (b := 0) (fun j h0 h1 => p_320.1 j h0 (by omega)) (fun j h0 h1 => p_321.1 j h0 (by omega)) ((v58_2 _ p_250.1 p_250.2.1 (p_251 (by omega))).mono (by omega))
                          have ok3 : okM K_328 F_329 S_330 N_331 80 gI.toInt := okM.swp (b := 80) (i := a1.toInt) (by decide) (by omega) p_332 p_333 p_334 p_335 ok2 (fun q => by rw [c2] at q; rw [c3]; exact ⟨by omega, Int32.toInt_inj.mp (by omega)⟩) p_250 hi7
                          have kp0 : kpO K K_328 80 40 := kpO.upd p_320.2 (by decide) (i := 80 + a1.toInt) (by omega) p_332
                          have kp1 : kpO F F_329 80 40 := kpO.upd p_321.2 (by decide) (i := 80 + a1.toInt) (by omega) p_333
                          have kp2 : kpO S S_330 80 40 := kpO.upd p_322.2 (by decide) (i := 80 + a1.toInt) (by omega) p_334
                          have kp3 : kpO N N_331 240 120 := kpO.upd (kpO.upd (kpO.upd p_323.2 (by decide) (i := 3 * (80 + a1.toInt)) (by omega) rfl) (by decide) (i := 3 * (80 + a1.toInt) + 1) (by omega) rfl) (by decide) (i := 3 * (80 + a1.toInt) + 2) (by omega) p_335
                          have ok0 : okM K_328 F_329 S_330 N_331 0 gI.toInt := okM.kpg (a := 80) (a3 := 240) (by decide) (by decide) (by omega) kp0 kp1 kp2 kp3 hO0
                          refine lv_pc (pc2 := 198) rfl ?_
                          refine lv_aload_n hx hb dX10_swap_198 rfl (lv_at hl 3 rfl) ?_
                          refine lv_iconst (v := 1) hx hb dX10_swap_199 (by decide) ?_
                          have zi_1 : (1 : Int32).toInt = 1 := by decide
                          refine ty_put (D := D) (ci := 9) (v := .int 1) (ty := .boolean) (C := RX10) (T := TX10) (N := 36) (F2 := (mF cI cL cC gC gE gW gA gT gI 1 gM K_328 F_329 S_330 N_331 gH gJ ge_242 gk_243 gf_244 gs_245 gg_246 gr RN_247 gb rV rN)) hx hb hts in10 tyX10 tyX10_ok nmX10 hown hK hG hS at_302 (by rw [k_a0]; rfl) rfl 8 (by decide) (hts (.fieldLink RX10 177 "RiverModelModel" "isSwapped" "Z") (List.mem_of_getElem? (i := 20) rfl)) (fun _ h9 => h9) rfl (by decide +kernel) (by decide) (by decide) (Nat.le_of_ble_eq_true rfl) (by rw [k_a0]; exact ⟨r_255, r_257, r_259, r_261, r_263, r_265, r_267, r_269, r_271, r_273, r_275, r_277, r_279, r_281, r_283, r_285, r_287, r_289, r_291, r_293, r_295, r_297, v_299, r_300, rfl, h_256, h_258, h_260, h_262, h_264, h_266, h_268, h_270, h_272, h_274, h_276, h_278, h_280, h_282, h_284, h_286, h_288, h_290, h_292, h_294, h_296, h_298, h_301⟩) (fun hG b hb h0 => by obtain ⟨e, g1, g2⟩ := hG b h0; exact ⟨e, g1, mF_gS (fun h => hb (uq b a0 (h.trans k_a0.symm) h0)) g2⟩) dX10_swap_200 (fun H locs hG hS at_336 o_337 => ?_)
                          have at_336 : va_at D vwCl (a0, .inr (9, [.int gC, .ref r_255, .int gb, .int gI, .ref r_257, .ref r_259, .ref r_261, .ref r_263, .int 1, .ref r_265, .ref r_267, .ref r_269, .ref r_271, .int gM, .ref r_273, .ref r_275, .ref r_277, .int gE, .ref r_279, .ref r_281, .ref r_283, .ref r_285, .ref r_287, .ref r_289, .ref r_291, .ref r_293, .ref r_295, .int ge_242, .int gk_243, .int gf_244, .int gs_245, .int gg_246, .ref r_297, .int gr, .int v_299, .ref r_300])) H := at_336
                          refine lv_iconst (v := 0) hx hb dX10_swap_203 (by decide) ?_
                          exact tx_iret (z := (ge_242, gk_243, gf_244, gs_245, gg_246, RN_247, K_328, F_329, S_330, N_331, 1)) hx hb hr hlk hG hS ⟨(show okM K_328 F_329 S_330 N_331 0 gI.toInt from ok0), (show swM (1 : Int32) K_328 F_329 S_330 N_331 gI.toInt from (Or.inr ok3)), (show othR gb (1 : Int32) gI K_328 F_329 from (fun _ => ⟨by omega, simM.lay p_320 p_321 p_332 p_333 ⟨by omega, by omega, by omega⟩ (by omega) (by omega) (by omega)⟩)), (show smR gb gb gI K F K_328 F_329 from (smR.kp8 kp0 kp1 (by omega))), (by show swpR (byT gT gC) gC.toInt gb gI a1 (0 : Int32) K F; exact Or.inr (Or.inr ⟨by omega, by omega, by omega, by omega, _, hnE, Or.inr ⟨by omega, _, _, _, _, _, _, itemAt.at p_252 (by omega), p_253, by omega, by omega, by omega⟩⟩))⟩ dX10_swap_204
                        · skip
                          have c_311 : gf_244.toInt ≠ x_309.toInt := q_ne c_311
                          refine lv_bipush (v := (-2)) hx hb dX10_swap_183 (by decide) ?_
                          have zi_m2 : ((-2) : Int32).toInt = (-2) := by decide
                          exact tx_iret (z := (ge_242, gk_243, gf_244, gs_245, gg_246, RN_247, K, F, S, N, gS)) hx hb hr hlk hG hS ⟨(show okM K F S N 0 gI.toInt from hO0), (show swM gS K F S N gI.toInt from hW), (show othR gb gS gI K F from hoR), (show smR gb gb gI K F K F from smR.rf), (by show swpR (byT gT gC) gC.toInt gb gI a1 ((-2) : Int32) K F; refine Or.inr (Or.inr ⟨by omega, by omega, by omega, by omega, _, hnE, Or.inl ⟨by omega, ?_⟩⟩); first | exact swY.noE p_252 (by omega) | exact swY.noK (itemAt.at p_252 (by omega)) (by omega))⟩ dX10_swap_185
                    · skip
                      have c_305 : gk_243.toInt = 103 := q_eq c_305
                      refine lv_iconst (v := 1) hx hb dX10_swap_156 (by decide) ?_
                      refine lv_pc (pc2 := 157) rfl ?_
                      refine lv_goto (tgt := 161) hx hb dX10_swap_157 (by decide) ?_
                      refine lv_iload hx hb dX10_swap_161 (lv_at hl 0 rfl) ?_
                      refine lv_icmp_ne (tgt := 183) hx hb dX10_swap_163 (by decide) (fun c_338 => ?_) (fun c_338 => ?_)
                      · skip
                        have c_338 : 1 ≠ vj237.toInt := q_ne c_338
                        refine lv_bipush (v := (-2)) hx hb dX10_swap_183 (by decide) ?_
                        have zi_m2 : ((-2) : Int32).toInt = (-2) := by decide
                        exact tx_iret (z := (ge_242, gk_243, gf_244, gs_245, gg_246, RN_247, K, F, S, N, gS)) hx hb hr hlk hG hS ⟨(show okM K F S N 0 gI.toInt from hO0), (show swM gS K F S N gI.toInt from hW), (show othR gb gS gI K F from hoR), (show smR gb gb gI K F K F from smR.rf), (by show swpR (byT gT gC) gC.toInt gb gI a1 ((-2) : Int32) K F; refine Or.inr (Or.inr ⟨by omega, by omega, by omega, by omega, _, hnE, Or.inl ⟨by omega, ?_⟩⟩); first | exact swY.noE p_252 (by omega) | exact swY.noK (itemAt.at p_252 (by omega)) (by omega))⟩ dX10_swap_185
                      · skip
                        have c_338 : 1 = vj237.toInt := q_eq c_338
                        refine lv_iload_n hx hb dX10_swap_166 rfl (lv_at hl 1 rfl) ?_
                        refine lv_if_eq (tgt := 186) hx hb dX10_swap_167 (by decide) (fun q => absurd q (by decide)) (fun _ => ?_)
                        refine lv_aload_n hx hb dX10_swap_170 rfl (lv_at hl 3 rfl) ?_
                        refine lv_pc (pc2 := 171) rfl ?_
                        refine va_get (D := D) (ci := 9) (v := .int gf_244) (C := RX10) (T := TX10) (N := 36) hx hb hts in10 hown hK (va_one at_302) 0 rfl rfl 29 (by decide) (hts (.fieldLink RX10 135 "RiverModelModel" "readFirst" "I") (List.mem_of_getElem? (i := 21) rfl)) (fun _ h9 => h9) rfl dX10_swap_171 ?_
                        refine lv_aload_n hx hb dX10_swap_174 rfl (lv_at hl 3 rfl) ?_
                        refine va_get (D := D) (ci := 9) (v := .ref r_259) (C := RX10) (T := TX10) (N := 36) hx hb hts in10 hown hK (va_one at_302) 0 rfl rfl 5 (by decide) (hts (.fieldLink RX10 16 "RiverModelModel" "first" "[I") (List.mem_of_getElem? (i := 22) rfl)) (fun _ h9 => h9) rfl dX10_swap_175 ?_
                        refine lv_iload_n hx hb dX10_swap_178 rfl (lv_at hl 4 rfl) ?_
                        have at_339 := mF_o43 hG h_260
                        have b_340 : vp_in a1 120 := (q_in (by omega) (by omega))
                        refine va_iald hx hb hK (va_one at_339) 0 0 rfl rfl b_340 dX10_swap_179 ?_
                        refine lv_topi (fun x_341 e_342 => ?_)
                        have w_x_341 : x_341 = F (0 + a1.toInt).toNat := by rw [e_342]; exact congrArg (fun q : Int => F q.toNat) (show a1.toInt = 0 + a1.toInt by omega)
                        have i_x_341 : x_341.toInt = (F (0 + a1.toInt).toNat).toInt := by rw [w_x_341]
                        refine lv_icmp_eq (tgt := 186) hx hb dX10_swap_180 (by decide) (fun c_343 => ?_) (fun c_343 => ?_)
                        · skip
                          have c_343 : gf_244.toInt = x_341.toInt := q_eq c_343
                          refine lv_aload_n hx hb dX10_swap_186 rfl (lv_at hl 3 rfl) ?_
                          refine lv_iconst (v := 2) hx hb dX10_swap_187 (by decide) ?_
                          refine lv_pc (pc2 := 188) rfl ?_
                          refine lv_iconst (v := 0) hx hb dX10_swap_188 (by decide) ?_
                          have zi_2 : (2 : Int32).toInt = 2 := by decide
                          refine tx_callv (W.runV (As := [.int 2, .int 0]) (rest := []) ⟨hx, hb, hml, hown, hts⟩ (m_X10_copies l D t cI cL cC gC gE gW gA gT gI gS gM K F S N gH gJ ge_242 gk_243 gf_244 gs_245 gg_246 gr RN_247 gb rV rN a0 2 0 80 0 240 0 uq (by omega) (by omega) (by omega) (by omega) (by omega) (by omega) (by omega) (by omega) (by omega) k_a0) (cwV 2 hts gu_X10_swap_X10_copies_170 rfl rfl rfl (by decide +kernel) ⟨Nat.le_of_ble_eq_true rfl, Nat.le_of_ble_eq_true rfl⟩) (tP_V hG hE at_302 rfl) rfl rfl hl.1 rfl (lv_room (Nat.le_of_ble_eq_true rfl)) dX10_swap_189 ⟨Nat.le_of_ble_eq_true rfl, Nat.le_of_ble_eq_true rfl⟩) hS (wrL_sub (by decide)) (fun zz_347 H locs hp_345 hG hS o_346 => ?_)
                          obtain ⟨K_348, F_349, S_350, N_351⟩ := zz_347
                          have at_302 := va_at.keptC at_302 o_346 k_a0 rfl
                          replace hG : tG D (mF cI cL cC gC gE gW gA gT gI gS gM K_348 F_349 S_350 N_351 gH gJ ge_242 gk_243 gf_244 gs_245 gg_246 gr RN_247 gb rV rN) t H := hG
                          have hp_345 : cpd K K_348 80 0 40 ∧ cpd F F_349 80 0 40 ∧ cpd S S_350 80 0 40 ∧ cpd N N_351 240 0 120 := hp_345
                          obtain ⟨p_352, p_353, p_354, p_355⟩ := hp_345
                          refine lv_aload_n hx hb dX10_swap_192 rfl (lv_at hl 3 rfl) ?_
                          refine lv_iconst (v := 2) hx hb dX10_swap_193 (by decide) ?_
                          refine lv_iload_n hx hb dX10_swap_194 rfl (lv_at hl 4 rfl) ?_
                          refine tx_callv (W.runV (As := [.int 2, .int a1]) (rest := []) ⟨hx, hb, hml, hown, hts⟩ (m_X10_lays l D t cI cL cC gC gE gW gA gT gI gS gM K_348 F_349 S_350 N_351 gH gJ ge_242 gk_243 gf_244 gs_245 gg_246 gr RN_247 gb rV rN a0 2 a1 80 uq (by omega) (by omega) (by omega) (by omega) (by omega) k_a0) (cwV 2 hts gu_X10_swap_X10_lays_155 rfl rfl rfl (by decide +kernel) ⟨Nat.le_of_ble_eq_true rfl, Nat.le_of_ble_eq_true rfl⟩) (tP_V hG hE at_302 rfl) rfl rfl hl.1 rfl (lv_room (Nat.le_of_ble_eq_true rfl)) dX10_swap_195 ⟨Nat.le_of_ble_eq_true rfl, Nat.le_of_ble_eq_true rfl⟩) hS (wrL_sub (by decide)) (fun zz_359 H locs hp_357 hG hS o_358 => ?_)
                          obtain ⟨K_360, F_361, S_362, N_363⟩ := zz_359
                          have at_302 := va_at.keptC at_302 o_358 k_a0 rfl
                          replace hG : tG D (mF cI cL cC gC gE gW gA gT gI gS gM K_360 F_361 S_362 N_363 gH gJ ge_242 gk_243 gf_244 gs_245 gg_246 gr RN_247 gb rV rN) t H := hG
                          have hp_357 : K_360 = upd K_348 (80 + a1.toInt).toNat gk_243 ∧ F_361 = upd F_349 (80 + a1.toInt).toNat gf_244 ∧ S_362 = upd S_350 (80 + a1.toInt).toNat gs_245 ∧ N_363 = upd (upd (upd N_351 (3 * (80 + a1.toInt)).toNat (RN_247 0)) (3 * (80 + a1.toInt) + 1).toNat (RN_247 1)) (3 * (80 + a1.toInt) + 2).toNat (RN_247 2) := hp_357
                          obtain ⟨p_364, p_365, p_366, p_367⟩ := hp_357
                          have ok2 : okM K_348 F_349 S_350 N_351 80 gI.toInt := okM.cpy (a := 80) (b := 0) (by decide) (by decide) (by omega) p_352 p_353 p_354 p_355 hO0
                          have c2 := p_352.1 a1.toInt (by omega) (by omega)
                          have c3 := p_353.1 a1.toInt (by omega) (by omega)
                          have hi7 : gk_243.toInt = 111 → hasS K_348 F_349 80 gI.toInt gf_244 := fun q => hasS.cp (b := 0) (fun j h0 h1 => p_352.1 j h0 (by omega)) (fun j h0 h1 => p_353.1 j h0 (by omega)) ((v58_2 _ p_250.1 p_250.2.1 (p_251 (by omega))).mono (by omega))
                          have ok3 : okM K_360 F_361 S_362 N_363 80 gI.toInt := okM.swp (b := 80) (i := a1.toInt) (by decide) (by omega) p_364 p_365 p_366 p_367 ok2 (fun q => by rw [c2] at q; rw [c3]; exact ⟨by omega, Int32.toInt_inj.mp (by omega)⟩) p_250 hi7
                          have kp0 : kpO K K_360 80 40 := kpO.upd p_352.2 (by decide) (i := 80 + a1.toInt) (by omega) p_364
                          have kp1 : kpO F F_361 80 40 := kpO.upd p_353.2 (by decide) (i := 80 + a1.toInt) (by omega) p_365
                          have kp2 : kpO S S_362 80 40 := kpO.upd p_354.2 (by decide) (i := 80 + a1.toInt) (by omega) p_366
                          have kp3 : kpO N N_363 240 120 := kpO.upd (kpO.upd (kpO.upd p_355.2 (by decide) (i := 3 * (80 + a1.toInt)) (by omega) rfl) (by decide) (i := 3 * (80 + a1.toInt) + 1) (by omega) rfl) (by decide) (i := 3 * (80 + a1.toInt) + 2) (by omega) p_367
                          have ok0 : okM K_360 F_361 S_362 N_363 0 gI.toInt := okM.kpg (a := 80) (a3 := 240) (by decide) (by decide) (by omega) kp0 kp1 kp2 kp3 hO0
                          refine lv_aload_n hx hb dX10_swap_198 rfl (lv_at hl 3 rfl) ?_
                          refine lv_iconst (v := 1) hx hb dX10_swap_199 (by decide) ?_
                          refine lv_pc (pc2 := 200) rfl ?_
                          have zi_1 : (1 : Int32).toInt = 1 := by decide
                          refine ty_put (D := D) (ci := 9) (v := .int 1) (ty := .boolean) (C := RX10) (T := TX10) (N := 36) (F2 := (mF cI cL cC gC gE gW gA gT gI 1 gM K_360 F_361 S_362 N_363 gH gJ ge_242 gk_243 gf_244 gs_245 gg_246 gr RN_247 gb rV rN)) hx hb hts in10 tyX10 tyX10_ok nmX10 hown hK hG hS at_302 (by rw [k_a0]; rfl) rfl 8 (by decide) (hts (.fieldLink RX10 177 "RiverModelModel" "isSwapped" "Z") (List.mem_of_getElem? (i := 20) rfl)) (fun _ h9 => h9) rfl (by decide +kernel) (by decide) (by decide) (Nat.le_of_ble_eq_true rfl) (by rw [k_a0]; exact ⟨r_255, r_257, r_259, r_261, r_263, r_265, r_267, r_269, r_271, r_273, r_275, r_277, r_279, r_281, r_283, r_285, r_287, r_289, r_291, r_293, r_295, r_297, v_299, r_300, rfl, h_256, h_258, h_260, h_262, h_264, h_266, h_268, h_270, h_272, h_274, h_276, h_278, h_280, h_282, h_284, h_286, h_288, h_290, h_292, h_294, h_296, h_298, h_301⟩) (fun hG b hb h0 => by obtain ⟨e, g1, g2⟩ := hG b h0; exact ⟨e, g1, mF_gS (fun h => hb (uq b a0 (h.trans k_a0.symm) h0)) g2⟩) dX10_swap_200 (fun H locs hG hS at_368 o_369 => ?_)
                          have at_368 : va_at D vwCl (a0, .inr (9, [.int gC, .ref r_255, .int gb, .int gI, .ref r_257, .ref r_259, .ref r_261, .ref r_263, .int 1, .ref r_265, .ref r_267, .ref r_269, .ref r_271, .int gM, .ref r_273, .ref r_275, .ref r_277, .int gE, .ref r_279, .ref r_281, .ref r_283, .ref r_285, .ref r_287, .ref r_289, .ref r_291, .ref r_293, .ref r_295, .int ge_242, .int gk_243, .int gf_244, .int gs_245, .int gg_246, .ref r_297, .int gr, .int v_299, .ref r_300])) H := at_368
                          refine lv_iconst (v := 0) hx hb dX10_swap_203 (by decide) ?_
                          exact tx_iret (z := (ge_242, gk_243, gf_244, gs_245, gg_246, RN_247, K_360, F_361, S_362, N_363, 1)) hx hb hr hlk hG hS ⟨(show okM K_360 F_361 S_362 N_363 0 gI.toInt from ok0), (show swM (1 : Int32) K_360 F_361 S_362 N_363 gI.toInt from (Or.inr ok3)), (show othR gb (1 : Int32) gI K_360 F_361 from (fun _ => ⟨by omega, simM.lay p_352 p_353 p_364 p_365 ⟨by omega, by omega, by omega⟩ (by omega) (by omega) (by omega)⟩)), (show smR gb gb gI K F K_360 F_361 from (smR.kp8 kp0 kp1 (by omega))), (by show swpR (byT gT gC) gC.toInt gb gI a1 (0 : Int32) K F; exact Or.inr (Or.inr ⟨by omega, by omega, by omega, by omega, _, hnE, Or.inr ⟨by omega, _, _, _, _, _, _, itemAt.at p_252 (by omega), p_253, by omega, by omega, by omega⟩⟩))⟩ dX10_swap_204
                        · skip
                          have c_343 : gf_244.toInt ≠ x_341.toInt := q_ne c_343
                          refine lv_bipush (v := (-2)) hx hb dX10_swap_183 (by decide) ?_
                          have zi_m2 : ((-2) : Int32).toInt = (-2) := by decide
                          exact tx_iret (z := (ge_242, gk_243, gf_244, gs_245, gg_246, RN_247, K, F, S, N, gS)) hx hb hr hlk hG hS ⟨(show okM K F S N 0 gI.toInt from hO0), (show swM gS K F S N gI.toInt from hW), (show othR gb gS gI K F from hoR), (show smR gb gb gI K F K F from smR.rf), (by show swpR (byT gT gC) gC.toInt gb gI a1 ((-2) : Int32) K F; refine Or.inr (Or.inr ⟨by omega, by omega, by omega, by omega, _, hnE, Or.inl ⟨by omega, ?_⟩⟩); first | exact swY.noE p_252 (by omega) | exact swY.noK (itemAt.at p_252 (by omega)) (by omega))⟩ dX10_swap_185
              · skip
                rw [zi_0] at p_254
                refine lv_if_eq (tgt := 183) hx hb dX10_swap_115 (by decide) (fun _ => ?_) (fun q => absurd (by decide) q)
                refine lv_bipush (v := (-2)) hx hb dX10_swap_183 (by decide) ?_
                have zi_m2 : ((-2) : Int32).toInt = (-2) := by decide
                exact tx_iret (z := (ge_242, gk_243, gf_244, gs_245, gg_246, RN_247, K, F, S, N, gS)) hx hb hr hlk hG hS ⟨(show okM K F S N 0 gI.toInt from hO0), (show swM gS K F S N gI.toInt from hW), (show othR gb gS gI K F from hoR), (show smR gb gb gI K F K F from smR.rf), (by show swpR (byT gT gC) gC.toInt gb gI a1 ((-2) : Int32) K F; exact Or.inr (Or.inr ⟨by omega, by omega, by omega, by omega, _, hnE, Or.inl ⟨by omega, swY.noV p_254⟩⟩))⟩ dX10_swap_185
            refine (hWW237 _ _ _).mpr ?_
            refine lv_pc (pc2 := 90) rfl ?_
            refine lv_aload_n hx hb dX10_swap_90 rfl (lv_at hl 2 rfl) ?_
            refine va_get (D := D) (ci := 9) (v := .ref r_61) (C := RX10) (T := TX10) (N := 36) hx hb hts in10 hown hK (va_one at_106) 0 rfl rfl 4 (by decide) (hts (.fieldLink RX10 13 "RiverModelModel" "kind" "[I") (List.mem_of_getElem? (i := 7) rfl)) (fun _ h9 => h9) rfl dX10_swap_91 ?_
            refine lv_iload_n hx hb dX10_swap_94 rfl (lv_at hl 3 rfl) ?_
            have b_370 : vp_in a1 120 := (q_in (by omega) (by omega))
            refine va_iald hx hb hK (va_one at_107) 0 0 rfl rfl b_370 dX10_swap_95 ?_
            refine lv_seti (y := x_109) e_110.symm ?_
            refine lv_bipush (v := 103) hx hb dX10_swap_96 (by decide) ?_
            refine lv_icmp_ne (tgt := 105) hx hb dX10_swap_98 (by decide) (fun c_371 => ?_) (fun c_371 => ?_)
            · skip
              have c_371 : x_109.toInt ≠ 103 := q_ne c_371
              refine lv_iconst (v := 0) hx hb dX10_swap_105 (by decide) ?_
              have zi_0 : (0 : Int32).toInt = 0 := by decide
              exact (hWW237 _ _ _).mp (jn237 0 (by omega) (by omega) (by omega))
            · skip
              have c_371 : x_109.toInt = 103 := q_eq c_371
              refine lv_iconst (v := 1) hx hb dX10_swap_101 (by decide) ?_
              refine lv_pc (pc2 := 102) rfl ?_
              refine lv_goto (tgt := 106) hx hb dX10_swap_102 (by decide) ?_
              have zi_1 : (1 : Int32).toInt = 1 := by decide
              exact (hWW237 _ _ _).mp (jn237 1 (by omega) (by omega) (by omega))
        have lp58 : ∀ (kk58 : Nat) (yk : Int32) (yn : Int32) (H1 : Heap) (locs1 : List Loc) (ls1 : Array Slot), a1.toInt - yk.toInt ≤ (kk58 : Int) → (0 ≤ yk.toInt) → (yk.toInt ≤ a1.toInt) → (nmS K F 0 yk.toInt yn) → (nmE K F 0 yk.toInt yn) → tG D (mF cI cL cC gC gE gW gA gT gI gS gM K F S N gH gJ ge gk gf gs gg gr RN gb rV rN) t H1 → tF t wPI s.heap H1 locs1 → lv_has ls1 5 [(3, .int yk), (2, .int yn), (0, .ref a0), (1, .int a1)] → WW58 H1 locs1 (F0 m 36 ls1 []) := by
          intro kk58
          induction kk58 with
          | zero =>
            intro yk yn H locs ls hk58 v58_0 v58_1 v58_2 v58_3 hG hS hl
            refine (hWW58 _ _ _).mpr ?_
            refine lv_iload_n hx hb dX10_swap_36 rfl (lv_at hl 0 rfl) ?_
            refine lv_iload_n hx hb dX10_swap_37 rfl (lv_at hl 3 rfl) ?_
            refine lv_icmp_ge (tgt := 73) hx hb dX10_swap_38 (by decide) (fun c_372 => ?_) (fun c_372 => ?_)
            · skip
              have c_372 : a1.toInt ≤ yk.toInt := q_le c_372
              exact (hWW58 _ _ _).mp (kx58 yk yn H locs ls v58_0 v58_1 v58_2 v58_3 (by omega) hG hS (lv_sub hl [0, 1, 2, 3] rfl))
            · skip
              have c_372 : yk.toInt < a1.toInt := q_nle c_372
              exfalso; omega
          | succ kk58 ih58 =>
            intro yk yn H locs ls hk58 v58_0 v58_1 v58_2 v58_3 hG hS hl
            refine (hWW58 _ _ _).mpr ?_
            refine lv_iload_n hx hb dX10_swap_36 rfl (lv_at hl 0 rfl) ?_
            refine lv_iload_n hx hb dX10_swap_37 rfl (lv_at hl 3 rfl) ?_
            refine lv_icmp_ge (tgt := 73) hx hb dX10_swap_38 (by decide) (fun c_373 => ?_) (fun c_373 => ?_)
            · skip
              have c_373 : a1.toInt ≤ yk.toInt := q_le c_373
              exact (hWW58 _ _ _).mp (kx58 yk yn H locs ls v58_0 v58_1 v58_2 v58_3 (by omega) hG hS (lv_sub hl [0, 1, 2, 3] rfl))
            · skip
              have c_373 : yk.toInt < a1.toInt := q_nle c_373
              have hok := hO0 yk.toInt (by omega) (by omega)
              have o1 := hok.1
              have o2 := hok.2.1
              refine lv_iload_n hx hb dX10_swap_41 rfl (lv_at hl 1 rfl) ?_
              refine lv_pc (pc2 := 42) rfl ?_
              refine lv_aload_n hx hb dX10_swap_42 rfl (lv_at hl 2 rfl) ?_
              obtain ⟨r_374, r_376, r_378, r_380, r_382, r_384, r_386, r_388, r_390, r_392, r_394, r_396, r_398, r_400, r_402, r_404, r_406, r_408, r_410, r_412, r_414, r_416, v_418, r_419, at_421, h_375, h_377, h_379, h_381, h_383, h_385, h_387, h_389, h_391, h_393, h_395, h_397, h_399, h_401, h_403, h_405, h_407, h_409, h_411, h_413, h_415, h_417, h_420⟩ := mF_o40 hG k_a0
              refine va_get (D := D) (ci := 9) (v := .ref r_376) (C := RX10) (T := TX10) (N := 36) hx hb hts in10 hown hK (va_one at_421) 0 rfl rfl 4 (by decide) (hts (.fieldLink RX10 13 "RiverModelModel" "kind" "[I") (List.mem_of_getElem? (i := 7) rfl)) (fun _ h9 => h9) rfl dX10_swap_43 ?_
              refine lv_iload_n hx hb dX10_swap_46 rfl (lv_at hl 0 rfl) ?_
              have at_422 := mF_o42 hG h_377
              have b_423 : vp_in yk 120 := (q_in (by omega) (by omega))
              refine va_iald hx hb hK (va_one at_422) 0 0 rfl rfl b_423 dX10_swap_47 ?_
              refine lv_topi (fun x_424 e_425 => ?_)
              have w_x_424 : x_424 = K (0 + yk.toInt).toNat := by rw [e_425]; exact congrArg (fun q : Int => K q.toNat) (show yk.toInt = 0 + yk.toInt by omega)
              have i_x_424 : x_424.toInt = (K (0 + yk.toInt).toNat).toInt := by rw [w_x_424]
              refine lv_bipush (v := 115) hx hb dX10_swap_48 (by decide) ?_
              refine lv_icmp_ne (tgt := 64) hx hb dX10_swap_50 (by decide) (fun c_426 => ?_) (fun c_426 => ?_)
              · skip
                have c_426 : x_424.toInt ≠ 115 := q_ne c_426
                refine lv_iconst (v := 0) hx hb dX10_swap_64 (by decide) ?_
                refine lv_ior hx hb dX10_swap_65 ?_
                refine lv_topi (fun x_427 e_428 => ?_)
                refine lv_pc (pc2 := 66) rfl ?_
                refine lv_istore_n (lv' := [(2, .int x_427), (3, .int yk), (0, .ref a0), (1, .int a1)]) hx hb dX10_swap_66 rfl hl (by decide) rfl (fun ls hl => ?_)
                obtain ⟨x_429, e_430⟩ : ∃ y : Int32, y = yk + Int32.ofInt 1 := ⟨_, rfl⟩
                have i_x_429 : x_429.toInt = yk.toInt + 1 := by rw [e_430, show Int32.ofInt 1 = 1 by decide]; exact (q_add (by rw [show (1 : Int32).toInt = 1 by decide]; omega) (by rw [show (1 : Int32).toInt = 1 by decide]; omega)).trans (by rw [show (1 : Int32).toInt = 1 by decide])
                refine lv_iinc (v := x_429) (lv' := [(3, .int x_429), (2, .int x_427), (0, .ref a0), (1, .int a1)]) hx hb dX10_swap_67 hl (k := 1) rfl e_430.symm (by decide) rfl (fun ls hl => ?_)
                refine lv_goto (tgt := 36) hx hb dX10_swap_70 (by decide) ?_
                exact (hWW58 _ _ _).mp (ih58 x_429 x_427 H locs ls (by omega) (by omega) (by omega) (by rw [show x_429.toInt = yk.toInt + 1 by omega, e_428, or_0]; exact nmS.step v58_2) (by rw [e_428, or_0]; exact nmE.step v58_3 (by omega) (by omega)) hG hS (lv_sub hl [0, 1, 2, 3] rfl))
              · skip
                have c_426 : x_424.toInt = 115 := q_eq c_426
                refine lv_iconst (v := 1) hx hb dX10_swap_53 (by decide) ?_
                refine lv_aload_n hx hb dX10_swap_54 rfl (lv_at hl 2 rfl) ?_
                refine va_get (D := D) (ci := 9) (v := .ref r_378) (C := RX10) (T := TX10) (N := 36) hx hb hts in10 hown hK (va_one at_421) 0 rfl rfl 5 (by decide) (hts (.fieldLink RX10 16 "RiverModelModel" "first" "[I") (List.mem_of_getElem? (i := 22) rfl)) (fun _ h9 => h9) rfl dX10_swap_55 ?_
                refine lv_iload_n hx hb dX10_swap_58 rfl (lv_at hl 0 rfl) ?_
                have at_431 := mF_o43 hG h_379
                have b_432 : vp_in yk 120 := (q_in (by omega) (by omega))
                refine va_iald hx hb hK (va_one at_431) 0 0 rfl rfl b_432 dX10_swap_59 ?_
                refine lv_topi (fun x_433 e_434 => ?_)
                have w_x_433 : x_433 = F (0 + yk.toInt).toNat := by rw [e_434]; exact congrArg (fun q : Int => F q.toNat) (show yk.toInt = 0 + yk.toInt by omega)
                have i_x_433 : x_433.toInt = (F (0 + yk.toInt).toNat).toInt := by rw [w_x_433]
                refine lv_pc (pc2 := 60) rfl ?_
                refine lv_ishl hx hb dX10_swap_60 ?_
                refine lv_topi (fun x_435 e_436 => ?_)
                refine lv_goto (tgt := 65) hx hb dX10_swap_61 (by decide) ?_
                refine lv_ior hx hb dX10_swap_65 ?_
                refine lv_topi (fun x_437 e_438 => ?_)
                refine lv_istore_n (lv' := [(2, .int x_437), (3, .int yk), (0, .ref a0), (1, .int a1)]) hx hb dX10_swap_66 rfl hl (by decide) rfl (fun ls hl => ?_)
                obtain ⟨x_439, e_440⟩ : ∃ y : Int32, y = yk + Int32.ofInt 1 := ⟨_, rfl⟩
                have i_x_439 : x_439.toInt = yk.toInt + 1 := by rw [e_440, show Int32.ofInt 1 = 1 by decide]; exact (q_add (by rw [show (1 : Int32).toInt = 1 by decide]; omega) (by rw [show (1 : Int32).toInt = 1 by decide]; omega)).trans (by rw [show (1 : Int32).toInt = 1 by decide])
                refine lv_iinc (v := x_439) (lv' := [(3, .int x_439), (2, .int x_437), (0, .ref a0), (1, .int a1)]) hx hb dX10_swap_67 hl (k := 1) rfl e_440.symm (by decide) rfl (fun ls hl => ?_)
                refine lv_goto (tgt := 36) hx hb dX10_swap_70 (by decide) ?_
                exact (hWW58 _ _ _).mp (ih58 x_439 x_437 H locs ls (by omega) (by omega) (by omega) (by rw [show x_439.toInt = yk.toInt + 1 by omega, e_438, e_436]; exact nmS.stepS (f := x_433) (by omega) (by omega) (by omega) (by omega) w_x_433.symm v58_2) (by rw [e_438, e_436]; exact nmE.stepS (f := x_433) v58_3 (by omega) (by omega) (by omega) (by omega) w_x_433.symm (by omega)) hG hS (lv_sub hl [0, 1, 2, 3] rfl))
        have zi_0 : (0 : Int32).toInt = 0 := by decide
        exact lp58 (a1.toInt - (0 : Int32).toInt : Int).toNat 0 0 H locs ls (by omega) (by omega) (by omega) nmS.zero nmE.zero hG hS (lv_sub hl [0, 1, 2, 3] rfl)
      · skip
        have c_57 : gI.toInt ≤ a1.toInt := q_nlt c_57
        refine lv_bipush (v := (-2)) hx hb dX10_swap_29 (by decide) ?_
        have zi_m2 : ((-2) : Int32).toInt = (-2) := by decide
        exact tx_iret (z := (ge, gk, gf, gs, gg, RN, K, F, S, N, gS)) hx hb hr hlk hG hS ⟨(show okM K F S N 0 gI.toInt from hO0), (show swM gS K F S N gI.toInt from hW), (show othR gb gS gI K F from hoR), (show smR gb gb gI K F K F from smR.rf), (by show swpR (byT gT gC) gC.toInt gb gI a1 ((-2) : Int32) K F; exact Or.inr (Or.inl ⟨by omega, by omega, by omega, by omega⟩))⟩ dX10_swap_31
  · skip
    refine lv_pc (pc2 := 9) rfl ?_
    refine lv_if_ne (tgt := 14) hx hb dX10_swap_9 (by decide) (fun q => absurd rfl q) (fun _ => ?_)
    refine lv_iconst (v := (-1)) hx hb dX10_swap_12 (by decide) ?_
    have zi_m1 : ((-1) : Int32).toInt = (-1) := by decide
    exact tx_iret (z := (ge, gk, gf, gs, gg, RN, K, F, S, N, gS)) hx hb hr hlk hG hS ⟨(show okM K F S N 0 gI.toInt from hO0), (show swM gS K F S N gI.toInt from hW), (show othR gb gS gI K F from hoR), (show smR gb gb gI K F K F from smR.rf), (by show swpR (byT gT gC) gC.toInt gb gI a1 ((-1) : Int32) K F; exact Or.inl ⟨by omega, by omega⟩)⟩ dX10_swap_13

def uX10_swapped : List Cond := .code yX10_swapped cX10_swapped 8 (some .long) :: ([.constantLong RX10 243 (3), .methodLink RX10 85 yX10_in, .static yX10_in, .initialized RX10, .constantLong RX10 229 (96), .methodLink RX10 248 yX10_isSet, .instanceMethod yX10_isSet, .selects RX10 yX10_isSet yX10_isSet, .fieldLink RX10 177 "RiverModelModel" "isSwapped" "Z", .methodLink RX10 274 yX10_asides, .instanceMethod yX10_asides, .selects RX10 yX10_asides yX10_asides, .methodLink RX10 186 yX10_begins, .instanceMethod yX10_begins, .selects RX10 yX10_begins yX10_begins, .methodLink RX10 277 yX10_returns, .instanceMethod yX10_returns, .selects RX10 yX10_returns yX10_returns, .methodLink RX10 231 yX10_goes, .instanceMethod yX10_goes, .selects RX10 yX10_goes yX10_goes, .methodLink RX10 251 yX10_reading, .instanceMethod yX10_reading, .selects RX10 yX10_reading yX10_reading, .fieldLink RX10 77 "RiverModelModel" "own" "[J", .constantLong RX10 238 (-2), .constantLong RX10 236 (-1), .code yX10_in cX10_in 6 (some .boolean), .code yX10_isSet cX10_isSet 2 (some .boolean), .fieldLink RX10 173 "RiverModelModel" "isBuilt" "Z", .fieldLink RX10 38 "RiverModelModel" "gaugeKind" "[I", .code yX10_asides cX10_asides 2 none, .fieldLink RX10 32 "RiverModelModel" "aside" "[J", .fieldLink RX10 28 "RiverModelModel" "m" "[J", .code yX10_begins cX10_begins 4 none, .methodLink RX10 183 yX10_startOf, .instanceMethod yX10_startOf, .selects RX10 yX10_startOf yX10_startOf, .methodLink RX10 208 yX10_isStore, .instanceMethod yX10_isStore, .selects RX10 yX10_isStore yX10_isStore, .fieldLink RX10 71 "RiverModelModel" "startB" "[I", .constantLong RX10 204 (224), .constantLong RX10 206 (227), .constantLong RX10 196 (5), .code yX10_startOf cX10_startOf 4 (some .int), .methodLink RX10 166 yX10_storeAt, .instanceMethod yX10_storeAt, .selects RX10 yX10_storeAt yX10_storeAt, .fieldLink RX10 22 "RiverModelModel" "number" "[I", .code yX10_storeAt cX10_storeAt 5 (some .int), .fieldLink RX10 163 "RiverModelModel" "items" "I", .fieldLink RX10 13 "RiverModelModel" "kind" "[I", .fieldLink RX10 16 "RiverModelModel" "first" "[I", .code yX10_isStore cX10_isStore 2 (some .boolean), .code yX10_returns cX10_returns 2 none, .code yX10_goes cX10_goes 4 none, .fieldLink RX10 25 "RiverModelModel" "weather" "[I", .methodLink RX10 225 yX10_passes, .instanceMethod yX10_passes, .selects RX10 yX10_passes yX10_passes, .code yX10_passes cX10_passes 12 none, .methodLink RX10 221 yX10_moves, .instanceMethod yX10_moves, .selects RX10 yX10_moves yX10_moves, .fieldLink RX10 19 "RiverModelModel" "second" "[I", .code yX10_moves cX10_moves 8 (some .long), .constantLong RX10 219 (10), .methodLink RX10 215 yX10_most, .instanceMethod yX10_most, .selects RX10 yX10_most yX10_most, .constantLong RX10 107 (100), .methodLink RX10 211 yX10_capacity, .instanceMethod yX10_capacity, .selects RX10 yX10_capacity yX10_capacity, .code yX10_most cX10_most 4 (some .long), .code yX10_capacity cX10_capacity 3 (some .long), .code yX10_reading cX10_reading 2 (some .long), .fieldLink RX10 41 "RiverModelModel" "gaugeAt" "[I"] ++ wsX100)
set_option maxRecDepth 20000 in
theorem gu_X10_swapped_X10_in_85 : GoodIn uX10_swapped (va_wsS RX10 85 yX10_in uX10_in) := goodIn_r _ [2, 3, 4, 28] rfl (by decide +kernel)
set_option maxRecDepth 20000 in
theorem gu_X10_swapped_X10_isSet_248 : GoodIn uX10_swapped (wsV RX10 248 RX10 yX10_isSet uX10_isSet) := goodIn_r _ [6, 7, 8, 4, 29, 30, 31, 80, 81, 82, 83, 84, 85, 86, 87, 88, 89, 90, 91, 92, 93, 94, 95, 96, 97, 98, 99, 100, 101, 102, 103, 104, 105, 106, 107, 108, 109, 110, 111, 112, 113, 114, 115] rfl (by decide +kernel)
set_option maxRecDepth 20000 in
theorem gu_X10_swapped_X10_asides_274 : GoodIn uX10_swapped (wsV RX10 274 RX10 yX10_asides uX10_asides) := goodIn_r _ [10, 11, 12, 4, 32, 33, 34, 80, 81, 82, 83, 84, 85, 86, 87, 88, 89, 90, 91, 92, 93, 94, 95, 96, 97, 98, 99, 100, 101, 102, 103, 104, 105, 106, 107, 108, 109, 110, 111, 112, 113, 114, 115] rfl (by decide +kernel)
set_option maxRecDepth 20000 in
theorem gu_X10_swapped_X10_begins_186 : GoodIn uX10_swapped (wsV RX10 186 RX10 yX10_begins uX10_begins) := goodIn_r _ [13, 14, 15, 4, 35, 34, 36, 37, 38, 4, 39, 40, 41, 42, 43, 44, 2, 3, 45, 46, 47, 48, 49, 50, 51, 52, 53, 54, 55, 28, 80, 81, 82, 83, 84, 85, 86, 87, 88, 89, 90, 91, 92, 93, 94, 95, 96, 97, 98, 99, 100, 101, 102, 103, 104, 105, 106, 107, 108, 109, 110, 111, 112, 113, 114, 115] rfl (by decide +kernel)
set_option maxRecDepth 20000 in
theorem gu_X10_swapped_X10_returns_277 : GoodIn uX10_swapped (wsV RX10 277 RX10 yX10_returns uX10_returns) := goodIn_r _ [16, 17, 18, 4, 56, 34, 33, 80, 81, 82, 83, 84, 85, 86, 87, 88, 89, 90, 91, 92, 93, 94, 95, 96, 97, 98, 99, 100, 101, 102, 103, 104, 105, 106, 107, 108, 109, 110, 111, 112, 113, 114, 115] rfl (by decide +kernel)
set_option maxRecDepth 20000 in
theorem gu_X10_swapped_X10_goes_231 : GoodIn uX10_swapped (wsV RX10 231 RX10 yX10_goes uX10_goes) := goodIn_r _ [19, 20, 21, 4, 57, 34, 58, 59, 60, 61, 4, 62, 52, 53, 63, 64, 65, 54, 66, 50, 67, 68, 69, 70, 71, 72, 73, 74, 75, 76, 77, 47, 48, 49, 51, 80, 81, 82, 83, 84, 85, 86, 87, 88, 89, 90, 91, 92, 93, 94, 95, 96, 97, 98, 99, 100, 101, 102, 103, 104, 105, 106, 107, 108, 109, 110, 111, 112, 113, 114, 115] rfl (by decide +kernel)
set_option maxRecDepth 20000 in
theorem gu_X10_swapped_X10_reading_251 : GoodIn uX10_swapped (wsV RX10 251 RX10 yX10_reading uX10_reading) := goodIn_r _ [22, 23, 24, 4, 78, 31, 34, 79, 80, 81, 82, 83, 84, 85, 86, 87, 88, 89, 90, 91, 92, 93, 94, 95, 96, 97, 98, 99, 100, 101, 102, 103, 104, 105, 106, 107, 108, 109, 110, 111, 112, 113, 114, 115] rfl (by decide +kernel)
set_option maxHeartbeats 4000000 in
set_option maxRecDepth 100000 in
theorem m_X10_swapped (l : Launch) (D : va_G) (t : Nat → Nat) (cI cL cC : ClassId) (gC : Int32) (gE : Int32) (gW : Nat → Int32) (gA : Nat → Int32) (gT : Nat → Int32) (gI : Int32) (gS : Int32) (gM : Int32) (K : Nat → Int32) (F : Nat → Int32) (S : Nat → Int32) (N : Nat → Int32) (gH : Int) (gJ : Int) (ge : Int32) (gk : Int32) (gf : Int32) (gs : Int32) (gg : Int32) (gr : Int32) (RN : Nat → Int32) (gb : Int32) (rV : Nat → Int32) (rN : Nat → Int32) (a0 : Nat) (a1 : Int32) (a2 : Int32) (a3 : Int32) (uq : ∀ b c : Nat, t b = t c → t b ≠ 0 → b = c) (hC0 : 0 ≤ gC.toInt) (hC4 : gC.toInt ≤ 400) (hI0 : 0 ≤ gI.toInt) (hI4 : gI.toInt ≤ 40) (hH0 : 0 ≤ gH) (hH9 : gH ≤ 96) (hm0 : 0 ≤ gM.toInt) (hm3 : gM.toInt ≤ 3) (hO0 : okM K F S N 0 gI.toInt) (hW : swM gS K F S N gI.toInt) (hoR : othR gb gS gI K F) (k_a0 : t a0 = 40) : tMx (Z := (Int) × (Int)) l yX10_swapped uX10_swapped 5 127 D (mF cI cL cC gC gE gW gA gT gI gS gM K F S N gH gJ ge gk gf gs gg gr RN gb rV rN) (fun z => (mF cI cL cC gC gE gW gA gT gI gS gM K F S N z.1 z.2 ge gk gf gs gg gr RN gb rV rN)) t cI cL cC [.ref a0, .int a1, .int a2, .int a3] wSw (xL (fun r (z : (Int) × (Int)) => 0 ≤ z.1 ∧ z.1 ≤ 96)) := by
  refine tMx.ofW (cc := cX10_swapped) (maxL := 8) (ret := (some .long)) (by decide) rfl (Nat.le_of_ble_eq_true rfl) ?_
  intro p e s m below meth c hx hb hr hml hown hts hlk H locs hG hK hE hS ls hl
  have hl : lv_has ls 8 [(0, .ref a0), (1, .int a1), (2, .int a2), (3, .int a3)] := hl
  have in10 : ∀ w ∈ wsX100, w ∈ uX10_swapped := fun w h => List.mem_cons_of_mem _ (List.mem_append_right _ h)
  refine lv_iload_n hx hb dX10_swapped_0 rfl (lv_at hl 1 rfl) ?_
  refine lv_i2l (v := a1.toInt64) hx hb dX10_swapped_1 rfl ?_
  refine lv_lconst (v := 0) hx hb dX10_swapped_2 (by decide) ?_
  refine lv_ldc2 hx hb hown (hts (.constantLong RX10 243 (3)) (List.mem_of_getElem? (i := 1) rfl)) dX10_swapped_3 ?_
  have zl_0 : (0 : Int64).toInt = 0 := by decide
  have zl_3 : (3 : Int64).toInt = 3 := by decide
  refine ty_calli (W.runS (As := [.long a1.toInt64, .long 0, .long 3]) (rest := []) ⟨hx, hb, hml, hown, hts⟩ (m_X10_in l D t cI cL cC gC gE gW gA gT gI gS gM K F S N gH gJ ge gk gf gs gg gr RN gb rV rN a1.toInt64 0 3 a1.toInt 0 3 uq (q_i2l _) (by decide) (by decide) ) (va_cwS 3 hts gu_X10_swapped_X10_in_85 rfl rfl rfl (by decide +kernel) ⟨Nat.le_of_ble_eq_true rfl, Nat.le_of_ble_eq_true rfl⟩) (tP_S hG hE) rfl rfl hl.1 rfl (lv_room (Nat.le_of_ble_eq_true rfl)) dX10_swapped_6 ⟨Nat.le_of_ble_eq_true rfl, Nat.le_of_ble_eq_true rfl⟩) hS (fun k h => by simp [wr0] at h) (fun r_1 H locs hp_2 hG hS o_3 => ?_)
  have hp_2 : (r_1 = 1 ∧ 0 ≤ a1.toInt ∧ a1.toInt ≤ 3) ∨ (r_1 = 0 ∧ (a1.toInt < 0 ∨ 3 < a1.toInt)) := hp_2
  rcases hp_2 with ⟨rfl, p_5, p_6⟩ | ⟨rfl, p_7⟩
  · skip
    refine lv_if_eq (tgt := 34) hx hb dX10_swapped_9 (by decide) (fun q => absurd q (by decide)) (fun _ => ?_)
    refine lv_iload_n hx hb dX10_swapped_12 rfl (lv_at hl 2 rfl) ?_
    refine lv_pc (pc2 := 13) rfl ?_
    refine lv_i2l (v := a2.toInt64) hx hb dX10_swapped_13 rfl ?_
    refine lv_lconst (v := 1) hx hb dX10_swapped_14 (by decide) ?_
    refine lv_ldc2 hx hb hown (hts (.constantLong RX10 229 (96)) (List.mem_of_getElem? (i := 5) rfl)) dX10_swapped_15 ?_
    have zl_1 : (1 : Int64).toInt = 1 := by decide
    have zl_96 : (96 : Int64).toInt = 96 := by decide
    refine ty_calli (W.runS (As := [.long a2.toInt64, .long 1, .long 96]) (rest := []) ⟨hx, hb, hml, hown, hts⟩ (m_X10_in l D t cI cL cC gC gE gW gA gT gI gS gM K F S N gH gJ ge gk gf gs gg gr RN gb rV rN a2.toInt64 1 96 a2.toInt 1 96 uq (q_i2l _) (by decide) (by decide) ) (va_cwS 3 hts gu_X10_swapped_X10_in_85 rfl rfl rfl (by decide +kernel) ⟨Nat.le_of_ble_eq_true rfl, Nat.le_of_ble_eq_true rfl⟩) (tP_S hG hE) rfl rfl hl.1 rfl (lv_room (Nat.le_of_ble_eq_true rfl)) dX10_swapped_18 ⟨Nat.le_of_ble_eq_true rfl, Nat.le_of_ble_eq_true rfl⟩) hS (fun k h => by simp [wr0] at h) (fun r_8 H locs hp_9 hG hS o_10 => ?_)
    have hp_9 : (r_8 = 1 ∧ 1 ≤ a2.toInt ∧ a2.toInt ≤ 96) ∨ (r_8 = 0 ∧ (a2.toInt < 1 ∨ 96 < a2.toInt)) := hp_9
    rcases hp_9 with ⟨rfl, p_12, p_13⟩ | ⟨rfl, p_14⟩
    · skip
      refine lv_if_eq (tgt := 34) hx hb dX10_swapped_21 (by decide) (fun q => absurd q (by decide)) (fun _ => ?_)
      refine lv_iload_n hx hb dX10_swapped_24 rfl (lv_at hl 3 rfl) ?_
      refine lv_i2l (v := a3.toInt64) hx hb dX10_swapped_25 rfl ?_
      refine lv_lconst (v := 0) hx hb dX10_swapped_26 (by decide) ?_
      refine lv_pc (pc2 := 27) rfl ?_
      refine lv_lconst (v := 1) hx hb dX10_swapped_27 (by decide) ?_
      refine ty_calli (W.runS (As := [.long a3.toInt64, .long 0, .long 1]) (rest := []) ⟨hx, hb, hml, hown, hts⟩ (m_X10_in l D t cI cL cC gC gE gW gA gT gI gS gM K F S N gH gJ ge gk gf gs gg gr RN gb rV rN a3.toInt64 0 1 a3.toInt 0 1 uq (q_i2l _) (by decide) (by decide) ) (va_cwS 3 hts gu_X10_swapped_X10_in_85 rfl rfl rfl (by decide +kernel) ⟨Nat.le_of_ble_eq_true rfl, Nat.le_of_ble_eq_true rfl⟩) (tP_S hG hE) rfl rfl hl.1 rfl (lv_room (Nat.le_of_ble_eq_true rfl)) dX10_swapped_28 ⟨Nat.le_of_ble_eq_true rfl, Nat.le_of_ble_eq_true rfl⟩) hS (fun k h => by simp [wr0] at h) (fun r_15 H locs hp_16 hG hS o_17 => ?_)
      have hp_16 : (r_15 = 1 ∧ 0 ≤ a3.toInt ∧ a3.toInt ≤ 1) ∨ (r_15 = 0 ∧ (a3.toInt < 0 ∨ 1 < a3.toInt)) := hp_16
      rcases hp_16 with ⟨rfl, p_19, p_20⟩ | ⟨rfl, p_21⟩
      · skip
        refine lv_if_ne (tgt := 38) hx hb dX10_swapped_31 (by decide) (fun _ => ?_) (fun q => absurd q (by decide))
        refine lv_aload_n hx hb dX10_swapped_38 rfl (lv_at hl 0 rfl) ?_
        refine lv_iload_n hx hb dX10_swapped_39 rfl (lv_at hl 1 rfl) ?_
        obtain ⟨r_22, r_24, r_26, r_28, r_30, r_32, r_34, r_36, r_38, r_40, r_42, r_44, r_46, r_48, r_50, r_52, r_54, r_56, r_58, r_60, r_62, r_64, v_66, r_67, at_69, h_23, h_25, h_27, h_29, h_31, h_33, h_35, h_37, h_39, h_41, h_43, h_45, h_47, h_49, h_51, h_53, h_55, h_57, h_59, h_61, h_63, h_65, h_68⟩ := mF_o40 hG k_a0
        refine ty_calli (W.runV (As := [.int a1]) (rest := []) ⟨hx, hb, hml, hown, hts⟩ (m_X10_isSet l D t cI cL cC gC gE gW gA gT gI gS gM K F S N gH gJ ge gk gf gs gg gr RN gb rV rN a0 a1  uq (by omega) (by omega) k_a0) (cwV 1 hts gu_X10_swapped_X10_isSet_248 rfl rfl rfl (by decide +kernel) ⟨Nat.le_of_ble_eq_true rfl, Nat.le_of_ble_eq_true rfl⟩) (tP_V hG hE at_69 rfl) rfl rfl hl.1 rfl (lv_room (Nat.le_of_ble_eq_true rfl)) dX10_swapped_40 ⟨Nat.le_of_ble_eq_true rfl, Nat.le_of_ble_eq_true rfl⟩) hS (fun k h => by simp [wr0] at h) (fun r_70 H locs hp_71 hG hS o_72 => ?_)
        have at_69 := va_at.keptC at_69 o_72 k_a0 rfl
        have hp_71 : (r_70 = 1 ∧ gb.toInt ≠ 0 ∧ 0 ≤ (rV a1.toInt.toNat).toInt) ∨ (r_70 = 0 ∧ (gb.toInt = 0 ∨ (rV a1.toInt.toNat).toInt < 0)) := hp_71
        rcases hp_71 with ⟨rfl, p_74, p_75⟩ | ⟨rfl, p_76⟩
        · skip
          refine lv_if_eq (tgt := 53) hx hb dX10_swapped_43 (by decide) (fun q => absurd q (by decide)) (fun _ => ?_)
          refine lv_aload_n hx hb dX10_swapped_46 rfl (lv_at hl 0 rfl) ?_
          refine lv_pc (pc2 := 47) rfl ?_
          refine va_get (D := D) (ci := 9) (v := .int gS) (C := RX10) (T := TX10) (N := 36) hx hb hts in10 hown hK (va_one at_69) 0 rfl rfl 8 (by decide) (hts (.fieldLink RX10 177 "RiverModelModel" "isSwapped" "Z") (List.mem_of_getElem? (i := 9) rfl)) (fun _ h9 => h9) rfl dX10_swapped_47 ?_
          refine lv_if_ne (tgt := 57) hx hb dX10_swapped_50 (by decide) (fun c_77 => ?_) (fun c_77 => ?_)
          · skip
            have c_77 : gS.toInt ≠ 0 := q_ne c_77
            have okS := Or.resolve_left hW (by omega)
            refine lv_aload_n hx hb dX10_swapped_57 rfl (lv_at hl 0 rfl) ?_
            refine tx_callv (W.runV (As := []) (rest := []) ⟨hx, hb, hml, hown, hts⟩ (m_X10_asides l D t cI cL cC gC gE gW gA gT gI gS gM K F S N gH gJ ge gk gf gs gg gr RN gb rV rN a0  uq  k_a0) (cwV 0 hts gu_X10_swapped_X10_asides_274 rfl rfl rfl (by decide +kernel) ⟨Nat.le_of_ble_eq_true rfl, Nat.le_of_ble_eq_true rfl⟩) (tP_V hG hE at_69 rfl) rfl rfl hl.1 rfl (lv_room (Nat.le_of_ble_eq_true rfl)) dX10_swapped_58 ⟨Nat.le_of_ble_eq_true rfl, Nat.le_of_ble_eq_true rfl⟩) hS (wrL_sub (by decide)) (fun gJ_82 H locs hp_79 hG hS o_80 => ?_)
            have at_69 := va_at.keptC at_69 o_80 k_a0 rfl
            replace hG : tG D (mF cI cL cC gC gE gW gA gT gI gS gM K F S N gH gJ_82 ge gk gf gs gg gr RN gb rV rN) t H := hG
            have hp_79 : gJ_82 = gH := hp_79
            have p_83 := hp_79
            refine lv_aload_n hx hb dX10_swapped_61 rfl (lv_at hl 0 rfl) ?_
            refine lv_iconst (v := 0) hx hb dX10_swapped_62 (by decide) ?_
            refine lv_iconst (v := 0) hx hb dX10_swapped_63 (by decide) ?_
            have zi_0 : (0 : Int32).toInt = 0 := by decide
            refine tx_callv (W.runV (As := [.int 0, .int 0]) (rest := []) ⟨hx, hb, hml, hown, hts⟩ (m_X10_begins l D t cI cL cC gC gE gW gA gT gI gS gM K F S N gH gJ_82 ge gk gf gs gg gr RN gb rV rN a0 0 0 0 uq (by omega) (by omega) (by omega) (by omega) (by omega) k_a0) (cwV 2 hts gu_X10_swapped_X10_begins_186 rfl rfl rfl (by decide +kernel) ⟨Nat.le_of_ble_eq_true rfl, Nat.le_of_ble_eq_true rfl⟩) (tP_V hG hE at_69 rfl) rfl rfl hl.1 rfl (lv_room (Nat.le_of_ble_eq_true rfl)) dX10_swapped_64 ⟨Nat.le_of_ble_eq_true rfl, Nat.le_of_ble_eq_true rfl⟩) hS (wrL_sub (by decide)) (fun gH_88 H locs hp_85 hG hS o_86 => ?_)
            have at_69 := va_at.keptC at_69 o_86 k_a0 rfl
            replace hG : tG D (mF cI cL cC gC gE gW gA gT gI gS gM K F S N gH_88 gJ_82 ge gk gf gs gg gr RN gb rV rN) t H := hG
            have hp_85 : gH_88 = 0 := hp_85
            have p_89 := hp_85
            refine lv_pc (pc2 := 67) rfl ?_
            refine lv_iconst (v := 0) hx hb dX10_swapped_67 (by decide) ?_
            refine lv_istore (lv' := [(4, .int 0), (0, .ref a0), (1, .int a1), (2, .int a2), (3, .int a3)]) hx hb dX10_swapped_68 hl (by decide) rfl (fun ls hl => ?_)
            refine lv_pc (pc2 := 70) rfl ?_
            refine lp_gen (fun WW90 hWW90 => ?_)
            have kx90 : ∀ (yh : Int32) (hm : Int) (H1 : Heap) (locs1 : List Loc) (ls1 : Array Slot), (0 ≤ yh.toInt) → (yh.toInt ≤ a2.toInt) → (hm = yh.toInt) → tG D (mF cI cL cC gC gE gW gA gT gI gS gM K F S N hm gJ_82 ge gk gf gs gg gr RN gb rV rN) t H1 → tF t wSw s.heap H1 locs1 → lv_has ls1 8 [(4, .int yh), (0, .ref a0), (1, .int a1), (2, .int a2), (3, .int a3)] → WW90 H1 locs1 (F0 m 100 ls1 []) := by
              intro yh hm H locs ls v90_0 v90_1 v90_2 hG hS hl
              refine (hWW90 _ _ _).mpr ?_
              refine lv_aload_n hx hb dX10_swapped_100 rfl (lv_at hl 1 rfl) ?_
              refine lv_iconst (v := 2) hx hb dX10_swapped_101 (by decide) ?_
              refine lv_iconst (v := 0) hx hb dX10_swapped_102 (by decide) ?_
              have zi_2 : (2 : Int32).toInt = 2 := by decide
              obtain ⟨r_91, r_93, r_95, r_97, r_99, r_101, r_103, r_105, r_107, r_109, r_111, r_113, r_115, r_117, r_119, r_121, r_123, r_125, r_127, r_129, r_131, r_133, v_135, r_136, at_138, h_92, h_94, h_96, h_98, h_100, h_102, h_104, h_106, h_108, h_110, h_112, h_114, h_116, h_118, h_120, h_122, h_124, h_126, h_128, h_130, h_132, h_134, h_137⟩ := mF_o40 hG k_a0
              refine tx_callv (W.runV (As := [.int 2, .int 0]) (rest := []) ⟨hx, hb, hml, hown, hts⟩ (m_X10_begins l D t cI cL cC gC gE gW gA gT gI gS gM K F S N hm gJ_82 ge gk gf gs gg gr RN gb rV rN a0 2 0 80 uq (by omega) (by omega) (by omega) (by omega) (by omega) k_a0) (cwV 2 hts gu_X10_swapped_X10_begins_186 rfl rfl rfl (by decide +kernel) ⟨Nat.le_of_ble_eq_true rfl, Nat.le_of_ble_eq_true rfl⟩) (tP_V hG hE at_138 rfl) rfl rfl hl.1 rfl (lv_room (Nat.le_of_ble_eq_true rfl)) dX10_swapped_103 ⟨Nat.le_of_ble_eq_true rfl, Nat.le_of_ble_eq_true rfl⟩) hS (wrL_sub (by decide)) (fun gH_143 H locs hp_140 hG hS o_141 => ?_)
              have at_138 := va_at.keptC at_138 o_141 k_a0 rfl
              replace hG : tG D (mF cI cL cC gC gE gW gA gT gI gS gM K F S N gH_143 gJ_82 ge gk gf gs gg gr RN gb rV rN) t H := hG
              have hp_140 : gH_143 = 0 := hp_140
              have p_144 := hp_140
              refine lv_bipush (v := (-4)) hx hb dX10_swapped_106 (by decide) ?_
              refine lv_istore (lv' := [(4, .int (-4)), (0, .ref a0), (1, .int a1), (2, .int a2), (3, .int a3)]) hx hb dX10_swapped_108 hl (by decide) rfl (fun ls hl => ?_)
              refine lv_pc (pc2 := 110) rfl ?_
              refine lv_lconst (v := 0) hx hb dX10_swapped_110 (by decide) ?_
              refine lv_lstore (lv' := [(5, .long 0), (4, .int (-4)), (0, .ref a0), (1, .int a1), (2, .int a2), (3, .int a3)]) hx hb dX10_swapped_111 hl (by decide) rfl (fun ls hl => ?_)
              refine lv_iconst (v := 0) hx hb dX10_swapped_113 (by decide) ?_
              refine lv_istore (lv' := [(7, .int 0), (5, .long 0), (4, .int (-4)), (0, .ref a0), (1, .int a1), (2, .int a2), (3, .int a3)]) hx hb dX10_swapped_114 hl (by decide) rfl (fun ls hl => ?_)
              refine lv_pc (pc2 := 116) rfl ?_
              refine lp_gen (fun WW145 hWW145 => ?_)
              have kx145 : ∀ (yh : Int32) (ys : Int64) (yf : Int32) (hm : Int) (H1 : Heap) (locs1 : List Loc) (ls1 : Array Slot), (0 ≤ yh.toInt) → (yh.toInt ≤ a2.toInt) → (hm = yh.toInt) → tG D (mF cI cL cC gC gE gW gA gT gI gS gM K F S N hm gJ_82 ge gk gf gs gg gr RN gb rV rN) t H1 → tF t wSw s.heap H1 locs1 → lv_has ls1 8 [(7, .int yh), (5, .long ys), (4, .int yf), (0, .ref a0), (1, .int a1), (2, .int a2), (3, .int a3)] → WW145 H1 locs1 (F0 m 182 ls1 []) := by
                intro yh ys yf hm H locs ls v145_0 v145_1 v145_2 hG hS hl
                refine (hWW145 _ _ _).mpr ?_
                refine lv_aload_n hx hb dX10_swapped_182 rfl (lv_at hl 3 rfl) ?_
                obtain ⟨r_146, r_148, r_150, r_152, r_154, r_156, r_158, r_160, r_162, r_164, r_166, r_168, r_170, r_172, r_174, r_176, r_178, r_180, r_182, r_184, r_186, r_188, v_190, r_191, at_193, h_147, h_149, h_151, h_153, h_155, h_157, h_159, h_161, h_163, h_165, h_167, h_169, h_171, h_173, h_175, h_177, h_179, h_181, h_183, h_185, h_187, h_189, h_192⟩ := mF_o40 hG k_a0
                refine tx_callv (W.runV (As := []) (rest := []) ⟨hx, hb, hml, hown, hts⟩ (m_X10_returns l D t cI cL cC gC gE gW gA gT gI gS gM K F S N hm gJ_82 ge gk gf gs gg gr RN gb rV rN a0  uq  k_a0) (cwV 0 hts gu_X10_swapped_X10_returns_277 rfl rfl rfl (by decide +kernel) ⟨Nat.le_of_ble_eq_true rfl, Nat.le_of_ble_eq_true rfl⟩) (tP_V hG hE at_193 rfl) rfl rfl hl.1 rfl (lv_room (Nat.le_of_ble_eq_true rfl)) dX10_swapped_183 ⟨Nat.le_of_ble_eq_true rfl, Nat.le_of_ble_eq_true rfl⟩) hS (wrL_sub (by decide)) (fun gH_198 H locs hp_195 hG hS o_196 => ?_)
                have at_193 := va_at.keptC at_193 o_196 k_a0 rfl
                replace hG : tG D (mF cI cL cC gC gE gW gA gT gI gS gM K F S N gH_198 gJ_82 ge gk gf gs gg gr RN gb rV rN) t H := hG
                have hp_195 : gH_198 = gJ_82 := hp_195
                have p_199 := hp_195
                refine lv_iload_n hx hb dX10_swapped_186 rfl (lv_at hl 6 rfl) ?_
                refine lv_if_ne (tgt := 196) hx hb dX10_swapped_187 (by decide) (fun c_200 => ?_) (fun c_200 => ?_)
                · skip
                  have c_200 : a3.toInt ≠ 0 := q_ne c_200
                  refine lv_pc (pc2 := 196) rfl ?_
                  refine lv_lload hx hb dX10_swapped_196 (lv_at hl 1 rfl) ?_
                  exact tx_lret (z := (gH_198, gJ_82)) hx hb hr hlk hG hS ⟨(by show 0 ≤ gH_198; omega), (by show gH_198 ≤ 96; omega)⟩ dX10_swapped_198
                · skip
                  have c_200 : a3.toInt = 0 := q_eq c_200
                  refine lv_iload hx hb dX10_swapped_190 (lv_at hl 2 rfl) ?_
                  refine lv_i2l (v := yf.toInt64) hx hb dX10_swapped_192 rfl ?_
                  refine lv_goto (tgt := 198) hx hb dX10_swapped_193 (by decide) ?_
                  exact tx_lret (z := (gH_198, gJ_82)) hx hb hr hlk hG hS ⟨(by show 0 ≤ gH_198; omega), (by show gH_198 ≤ 96; omega)⟩ dX10_swapped_198
              have lp145 : ∀ (kk145 : Nat) (yh : Int32) (ys : Int64) (yf : Int32) (hm : Int) (H1 : Heap) (locs1 : List Loc) (ls1 : Array Slot), a2.toInt - yh.toInt ≤ (kk145 : Int) → (0 ≤ yh.toInt) → (yh.toInt ≤ a2.toInt) → (hm = yh.toInt) → tG D (mF cI cL cC gC gE gW gA gT gI gS gM K F S N hm gJ_82 ge gk gf gs gg gr RN gb rV rN) t H1 → tF t wSw s.heap H1 locs1 → lv_has ls1 8 [(7, .int yh), (5, .long ys), (4, .int yf), (0, .ref a0), (1, .int a1), (2, .int a2), (3, .int a3)] → WW145 H1 locs1 (F0 m 116 ls1 []) := by
                intro kk145
                induction kk145 with
                | zero =>
                  intro yh ys yf hm H locs ls hk145 v145_0 v145_1 v145_2 hG hS hl
                  refine (hWW145 _ _ _).mpr ?_
                  refine lv_iload hx hb dX10_swapped_116 (lv_at hl 0 rfl) ?_
                  refine lv_iload_n hx hb dX10_swapped_118 rfl (lv_at hl 5 rfl) ?_
                  refine lv_pc (pc2 := 119) rfl ?_
                  refine lv_icmp_ge (tgt := 182) hx hb dX10_swapped_119 (by decide) (fun c_201 => ?_) (fun c_201 => ?_)
                  · skip
                    have c_201 : a2.toInt ≤ yh.toInt := q_le c_201
                    exact (hWW145 _ _ _).mp (kx145 yh ys yf hm H locs ls v145_0 v145_1 v145_2 hG hS (lv_sub hl [0, 1, 2, 3, 4, 5, 6] rfl))
                  · skip
                    have c_201 : yh.toInt < a2.toInt := q_nle c_201
                    exfalso; omega
                | succ kk145 ih145 =>
                  intro yh ys yf hm H locs ls hk145 v145_0 v145_1 v145_2 hG hS hl
                  refine (hWW145 _ _ _).mpr ?_
                  refine lv_iload hx hb dX10_swapped_116 (lv_at hl 0 rfl) ?_
                  refine lv_iload_n hx hb dX10_swapped_118 rfl (lv_at hl 5 rfl) ?_
                  refine lv_icmp_ge (tgt := 182) hx hb dX10_swapped_119 (by decide) (fun c_202 => ?_) (fun c_202 => ?_)
                  · skip
                    have c_202 : a2.toInt ≤ yh.toInt := q_le c_202
                    exact (hWW145 _ _ _).mp (kx145 yh ys yf hm H locs ls v145_0 v145_1 v145_2 hG hS (lv_sub hl [0, 1, 2, 3, 4, 5, 6] rfl))
                  · skip
                    have c_202 : yh.toInt < a2.toInt := q_nle c_202
                    refine lv_aload_n hx hb dX10_swapped_122 rfl (lv_at hl 3 rfl) ?_
                    refine lv_iconst (v := 2) hx hb dX10_swapped_123 (by decide) ?_
                    refine lv_iconst (v := 0) hx hb dX10_swapped_124 (by decide) ?_
                    obtain ⟨r_203, r_205, r_207, r_209, r_211, r_213, r_215, r_217, r_219, r_221, r_223, r_225, r_227, r_229, r_231, r_233, r_235, r_237, r_239, r_241, r_243, r_245, v_247, r_248, at_250, h_204, h_206, h_208, h_210, h_212, h_214, h_216, h_218, h_220, h_222, h_224, h_226, h_228, h_230, h_232, h_234, h_236, h_238, h_240, h_242, h_244, h_246, h_249⟩ := mF_o40 hG k_a0
                    refine tx_callv (W.runV (As := [.int 2, .int 0]) (rest := []) ⟨hx, hb, hml, hown, hts⟩ (m_X10_goes l D t cI cL cC gC gE gW gA gT gI gS gM K F S N hm gJ_82 ge gk gf gs gg gr RN gb rV rN a0 2 0 80 uq (by omega) (by omega) (by omega) (by omega) (by omega) okS (by omega) (by omega) (by omega) (by omega) k_a0) (cwV 2 hts gu_X10_swapped_X10_goes_231 rfl rfl rfl (by decide +kernel) ⟨Nat.le_of_ble_eq_true rfl, Nat.le_of_ble_eq_true rfl⟩) (tP_V hG hE at_250 rfl) rfl rfl hl.1 rfl (lv_room (Nat.le_of_ble_eq_true rfl)) dX10_swapped_125 ⟨Nat.le_of_ble_eq_true rfl, Nat.le_of_ble_eq_true rfl⟩) hS (wrL_sub (by decide)) (fun gH_255 H locs hp_252 hG hS o_253 => ?_)
                    have at_250 := va_at.keptC at_250 o_253 k_a0 rfl
                    replace hG : tG D (mF cI cL cC gC gE gW gA gT gI gS gM K F S N gH_255 gJ_82 ge gk gf gs gg gr RN gb rV rN) t H := hG
                    have hp_252 : gH_255 = hm + 1 := hp_252
                    have p_256 := hp_252
                    refine lv_pc (pc2 := 128) rfl ?_
                    refine lv_iload hx hb dX10_swapped_128 (lv_at hl 2 rfl) ?_
                    refine lv_if_ge (tgt := 154) hx hb dX10_swapped_130 (by decide) (fun c_257 => ?_) (fun c_257 => ?_)
                    · skip
                      have c_257 : 0 ≤ yf.toInt := q_le c_257
                      refine lv_iload hx hb dX10_swapped_154 (lv_at hl 2 rfl) ?_
                      refine lv_istore (lv' := [(4, .int yf), (7, .int yh), (5, .long ys), (0, .ref a0), (1, .int a1), (2, .int a2), (3, .int a3)]) hx hb dX10_swapped_156 hl (by decide) rfl (fun ls hl => ?_)
                      refine lv_lload hx hb dX10_swapped_158 (lv_at hl 2 rfl) ?_
                      refine lv_aload_n hx hb dX10_swapped_160 rfl (lv_at hl 3 rfl) ?_
                      refine lv_iload_n hx hb dX10_swapped_161 rfl (lv_at hl 4 rfl) ?_
                      refine ty_calll (W.runV (As := [.int a1]) (rest := [.long ys]) ⟨hx, hb, hml, hown, hts⟩ (m_X10_reading l D t cI cL cC gC gE gW gA gT gI gS gM K F S N gH_255 gJ_82 ge gk gf gs gg gr RN gb rV rN a0 a1  uq (by omega) (by omega) k_a0) (cwV 1 hts gu_X10_swapped_X10_reading_251 rfl rfl rfl (by decide +kernel) ⟨Nat.le_of_ble_eq_true rfl, Nat.le_of_ble_eq_true rfl⟩) (tP_V hG hE at_250 rfl) rfl rfl hl.1 rfl (lv_room (Nat.le_of_ble_eq_true rfl)) dX10_swapped_162 ⟨Nat.le_of_ble_eq_true rfl, Nat.le_of_ble_eq_true rfl⟩) hS (fun k h => by simp [wr0] at h) (fun z_258 H locs hp_259 hG hS o_260 => ?_)
                      have at_250 := va_at.keptC at_250 o_260 k_a0 rfl
                      refine lv_pc (pc2 := 165) rfl ?_
                      refine lv_aload_n hx hb dX10_swapped_165 rfl (lv_at hl 3 rfl) ?_
                      refine va_get (D := D) (ci := 9) (v := .ref r_248) (C := RX10) (T := TX10) (N := 36) hx hb hts in10 hown hK (va_one at_250) 0 rfl rfl 35 (by decide) (hts (.fieldLink RX10 77 "RiverModelModel" "own" "[J") (List.mem_of_getElem? (i := 25) rfl)) (fun _ h9 => h9) rfl dX10_swapped_166 ?_
                      refine lv_iload hx hb dX10_swapped_169 (lv_at hl 1 rfl) ?_
                      obtain ⟨f_262, at_263⟩ := mF_o63 hG h_249
                      have b_264 : vp_in yh 96 := (q_in (by omega) (by omega))
                      refine va_lald hx hb hK (va_one at_263) 0 1 rfl rfl b_264 dX10_swapped_171 ?_
                      refine lv_topl (fun z_265 e_266 => ?_)
                      refine lv_lsub hx hb dX10_swapped_172 ?_
                      refine lv_topl (fun z_267 e_268 => ?_)
                      refine lv_ladd hx hb dX10_swapped_173 ?_
                      refine lv_topl (fun z_269 e_270 => ?_)
                      refine lv_lstore (lv' := [(5, .long z_269), (4, .int yf), (7, .int yh), (0, .ref a0), (1, .int a1), (2, .int a2), (3, .int a3)]) hx hb dX10_swapped_174 hl (by decide) rfl (fun ls hl => ?_)
                      obtain ⟨x_271, e_272⟩ : ∃ y : Int32, y = yh + Int32.ofInt 1 := ⟨_, rfl⟩
                      have i_x_271 : x_271.toInt = yh.toInt + 1 := by rw [e_272, show Int32.ofInt 1 = 1 by decide]; exact (q_add (by rw [show (1 : Int32).toInt = 1 by decide]; omega) (by rw [show (1 : Int32).toInt = 1 by decide]; omega)).trans (by rw [show (1 : Int32).toInt = 1 by decide])
                      refine lv_iinc (v := x_271) (lv' := [(7, .int x_271), (5, .long z_269), (4, .int yf), (0, .ref a0), (1, .int a1), (2, .int a2), (3, .int a3)]) hx hb dX10_swapped_176 hl (k := 2) rfl e_272.symm (by decide) rfl (fun ls hl => ?_)
                      refine lv_pc (pc2 := 179) rfl ?_
                      refine lv_goto (tgt := 116) hx hb dX10_swapped_179 (by decide) ?_
                      exact (hWW145 _ _ _).mp (ih145 x_271 z_269 yf gH_255 H locs ls (by omega) (by omega) (by omega) (by omega) hG hS (lv_sub hl [0, 1, 2, 3, 4, 5, 6] rfl))
                    · skip
                      have c_257 : yf.toInt < 0 := q_nle c_257
                      refine lv_aload_n hx hb dX10_swapped_133 rfl (lv_at hl 3 rfl) ?_
                      refine lv_iload_n hx hb dX10_swapped_134 rfl (lv_at hl 4 rfl) ?_
                      refine ty_calll (W.runV (As := [.int a1]) (rest := []) ⟨hx, hb, hml, hown, hts⟩ (m_X10_reading l D t cI cL cC gC gE gW gA gT gI gS gM K F S N gH_255 gJ_82 ge gk gf gs gg gr RN gb rV rN a0 a1  uq (by omega) (by omega) k_a0) (cwV 1 hts gu_X10_swapped_X10_reading_251 rfl rfl rfl (by decide +kernel) ⟨Nat.le_of_ble_eq_true rfl, Nat.le_of_ble_eq_true rfl⟩) (tP_V hG hE at_250 rfl) rfl rfl hl.1 rfl (lv_room (Nat.le_of_ble_eq_true rfl)) dX10_swapped_135 ⟨Nat.le_of_ble_eq_true rfl, Nat.le_of_ble_eq_true rfl⟩) hS (fun k h => by simp [wr0] at h) (fun z_273 H locs hp_274 hG hS o_275 => ?_)
                      have at_250 := va_at.keptC at_250 o_275 k_a0 rfl
                      refine lv_aload_n hx hb dX10_swapped_138 rfl (lv_at hl 3 rfl) ?_
                      refine va_get (D := D) (ci := 9) (v := .ref r_248) (C := RX10) (T := TX10) (N := 36) hx hb hts in10 hown hK (va_one at_250) 0 rfl rfl 35 (by decide) (hts (.fieldLink RX10 77 "RiverModelModel" "own" "[J") (List.mem_of_getElem? (i := 25) rfl)) (fun _ h9 => h9) rfl dX10_swapped_139 ?_
                      refine lv_iload hx hb dX10_swapped_142 (lv_at hl 0 rfl) ?_
                      obtain ⟨f_277, at_278⟩ := mF_o63 hG h_249
                      have b_279 : vp_in yh 96 := (q_in (by omega) (by omega))
                      refine va_lald hx hb hK (va_one at_278) 0 1 rfl rfl b_279 dX10_swapped_144 ?_
                      refine lv_topl (fun z_280 e_281 => ?_)
                      refine lv_pc (pc2 := 145) rfl ?_
                      refine W.lcmp hx hb dX10_swapped_145 ?_
                      refine lv_if_eq (tgt := 154) hx hb dX10_swapped_146 (by decide) (fun c_282 => ?_) (fun c_282 => ?_)
                      · skip
                        have c_282 : z_273.toInt = z_280.toInt := q_cmp_eq c_282
                        refine lv_iload hx hb dX10_swapped_154 (lv_at hl 2 rfl) ?_
                        refine lv_istore (lv' := [(4, .int yf), (7, .int yh), (5, .long ys), (0, .ref a0), (1, .int a1), (2, .int a2), (3, .int a3)]) hx hb dX10_swapped_156 hl (by decide) rfl (fun ls hl => ?_)
                        refine lv_lload hx hb dX10_swapped_158 (lv_at hl 2 rfl) ?_
                        refine lv_aload_n hx hb dX10_swapped_160 rfl (lv_at hl 3 rfl) ?_
                        refine lv_iload_n hx hb dX10_swapped_161 rfl (lv_at hl 4 rfl) ?_
                        refine ty_calll (W.runV (As := [.int a1]) (rest := [.long ys]) ⟨hx, hb, hml, hown, hts⟩ (m_X10_reading l D t cI cL cC gC gE gW gA gT gI gS gM K F S N gH_255 gJ_82 ge gk gf gs gg gr RN gb rV rN a0 a1  uq (by omega) (by omega) k_a0) (cwV 1 hts gu_X10_swapped_X10_reading_251 rfl rfl rfl (by decide +kernel) ⟨Nat.le_of_ble_eq_true rfl, Nat.le_of_ble_eq_true rfl⟩) (tP_V hG hE at_250 rfl) rfl rfl hl.1 rfl (lv_room (Nat.le_of_ble_eq_true rfl)) dX10_swapped_162 ⟨Nat.le_of_ble_eq_true rfl, Nat.le_of_ble_eq_true rfl⟩) hS (fun k h => by simp [wr0] at h) (fun z_283 H locs hp_284 hG hS o_285 => ?_)
                        have at_250 := va_at.keptC at_250 o_285 k_a0 rfl
                        have at_278 := va_at.keptC at_278 o_285 h_249 rfl
                        refine lv_pc (pc2 := 165) rfl ?_
                        refine lv_aload_n hx hb dX10_swapped_165 rfl (lv_at hl 3 rfl) ?_
                        refine va_get (D := D) (ci := 9) (v := .ref r_248) (C := RX10) (T := TX10) (N := 36) hx hb hts in10 hown hK (va_one at_250) 0 rfl rfl 35 (by decide) (hts (.fieldLink RX10 77 "RiverModelModel" "own" "[J") (List.mem_of_getElem? (i := 25) rfl)) (fun _ h9 => h9) rfl dX10_swapped_166 ?_
                        refine lv_iload hx hb dX10_swapped_169 (lv_at hl 1 rfl) ?_
                        have b_287 : vp_in yh 96 := (q_in (by omega) (by omega))
                        refine va_lald hx hb hK (va_one at_278) 0 1 rfl rfl b_287 dX10_swapped_171 ?_
                        refine lv_setl (y := z_280) e_281.symm ?_
                        refine lv_lsub hx hb dX10_swapped_172 ?_
                        refine lv_topl (fun z_288 e_289 => ?_)
                        refine lv_ladd hx hb dX10_swapped_173 ?_
                        refine lv_topl (fun z_290 e_291 => ?_)
                        refine lv_lstore (lv' := [(5, .long z_290), (4, .int yf), (7, .int yh), (0, .ref a0), (1, .int a1), (2, .int a2), (3, .int a3)]) hx hb dX10_swapped_174 hl (by decide) rfl (fun ls hl => ?_)
                        obtain ⟨x_292, e_293⟩ : ∃ y : Int32, y = yh + Int32.ofInt 1 := ⟨_, rfl⟩
                        have i_x_292 : x_292.toInt = yh.toInt + 1 := by rw [e_293, show Int32.ofInt 1 = 1 by decide]; exact (q_add (by rw [show (1 : Int32).toInt = 1 by decide]; omega) (by rw [show (1 : Int32).toInt = 1 by decide]; omega)).trans (by rw [show (1 : Int32).toInt = 1 by decide])
                        refine lv_iinc (v := x_292) (lv' := [(7, .int x_292), (5, .long z_290), (4, .int yf), (0, .ref a0), (1, .int a1), (2, .int a2), (3, .int a3)]) hx hb dX10_swapped_176 hl (k := 2) rfl e_293.symm (by decide) rfl (fun ls hl => ?_)
                        refine lv_pc (pc2 := 179) rfl ?_
                        refine lv_goto (tgt := 116) hx hb dX10_swapped_179 (by decide) ?_
                        exact (hWW145 _ _ _).mp (ih145 x_292 z_290 yf gH_255 H locs ls (by omega) (by omega) (by omega) (by omega) hG hS (lv_sub hl [0, 1, 2, 3, 4, 5, 6] rfl))
                      · skip
                        have c_282 : z_273.toInt ≠ z_280.toInt := q_cmp_ne c_282
                        refine lv_iload hx hb dX10_swapped_149 (lv_at hl 0 rfl) ?_
                        refine lv_goto (tgt := 156) hx hb dX10_swapped_151 (by decide) ?_
                        refine lv_istore (lv' := [(4, .int yh), (7, .int yh), (5, .long ys), (0, .ref a0), (1, .int a1), (2, .int a2), (3, .int a3)]) hx hb dX10_swapped_156 hl (by decide) rfl (fun ls hl => ?_)
                        refine lv_lload hx hb dX10_swapped_158 (lv_at hl 2 rfl) ?_
                        refine lv_aload_n hx hb dX10_swapped_160 rfl (lv_at hl 3 rfl) ?_
                        refine lv_iload_n hx hb dX10_swapped_161 rfl (lv_at hl 4 rfl) ?_
                        refine ty_calll (W.runV (As := [.int a1]) (rest := [.long ys]) ⟨hx, hb, hml, hown, hts⟩ (m_X10_reading l D t cI cL cC gC gE gW gA gT gI gS gM K F S N gH_255 gJ_82 ge gk gf gs gg gr RN gb rV rN a0 a1  uq (by omega) (by omega) k_a0) (cwV 1 hts gu_X10_swapped_X10_reading_251 rfl rfl rfl (by decide +kernel) ⟨Nat.le_of_ble_eq_true rfl, Nat.le_of_ble_eq_true rfl⟩) (tP_V hG hE at_250 rfl) rfl rfl hl.1 rfl (lv_room (Nat.le_of_ble_eq_true rfl)) dX10_swapped_162 ⟨Nat.le_of_ble_eq_true rfl, Nat.le_of_ble_eq_true rfl⟩) hS (fun k h => by simp [wr0] at h) (fun z_294 H locs hp_295 hG hS o_296 => ?_)
                        have at_250 := va_at.keptC at_250 o_296 k_a0 rfl
                        have at_278 := va_at.keptC at_278 o_296 h_249 rfl
                        refine lv_pc (pc2 := 165) rfl ?_
                        refine lv_aload_n hx hb dX10_swapped_165 rfl (lv_at hl 3 rfl) ?_
                        refine va_get (D := D) (ci := 9) (v := .ref r_248) (C := RX10) (T := TX10) (N := 36) hx hb hts in10 hown hK (va_one at_250) 0 rfl rfl 35 (by decide) (hts (.fieldLink RX10 77 "RiverModelModel" "own" "[J") (List.mem_of_getElem? (i := 25) rfl)) (fun _ h9 => h9) rfl dX10_swapped_166 ?_
                        refine lv_iload hx hb dX10_swapped_169 (lv_at hl 1 rfl) ?_
                        have b_298 : vp_in yh 96 := (q_in (by omega) (by omega))
                        refine va_lald hx hb hK (va_one at_278) 0 1 rfl rfl b_298 dX10_swapped_171 ?_
                        refine lv_setl (y := z_280) e_281.symm ?_
                        refine lv_lsub hx hb dX10_swapped_172 ?_
                        refine lv_topl (fun z_299 e_300 => ?_)
                        refine lv_ladd hx hb dX10_swapped_173 ?_
                        refine lv_topl (fun z_301 e_302 => ?_)
                        refine lv_lstore (lv' := [(5, .long z_301), (4, .int yh), (7, .int yh), (0, .ref a0), (1, .int a1), (2, .int a2), (3, .int a3)]) hx hb dX10_swapped_174 hl (by decide) rfl (fun ls hl => ?_)
                        obtain ⟨x_303, e_304⟩ : ∃ y : Int32, y = yh + Int32.ofInt 1 := ⟨_, rfl⟩
                        have i_x_303 : x_303.toInt = yh.toInt + 1 := by rw [e_304, show Int32.ofInt 1 = 1 by decide]; exact (q_add (by rw [show (1 : Int32).toInt = 1 by decide]; omega) (by rw [show (1 : Int32).toInt = 1 by decide]; omega)).trans (by rw [show (1 : Int32).toInt = 1 by decide])
                        refine lv_iinc (v := x_303) (lv' := [(7, .int x_303), (5, .long z_301), (4, .int yh), (0, .ref a0), (1, .int a1), (2, .int a2), (3, .int a3)]) hx hb dX10_swapped_176 hl (k := 2) rfl e_304.symm (by decide) rfl (fun ls hl => ?_)
                        refine lv_pc (pc2 := 179) rfl ?_
                        refine lv_goto (tgt := 116) hx hb dX10_swapped_179 (by decide) ?_
                        exact (hWW145 _ _ _).mp (ih145 x_303 z_301 yh gH_255 H locs ls (by omega) (by omega) (by omega) (by omega) hG hS (lv_sub hl [0, 1, 2, 3, 4, 5, 6] rfl))
              have zi_m4 : ((-4) : Int32).toInt = (-4) := by decide
              exact lp145 (a2.toInt - (0 : Int32).toInt : Int).toNat 0 0 (-4) gH_143 H locs ls (by omega) (by omega) (by omega) (by omega) hG hS (lv_sub hl [0, 1, 2, 3, 4, 5, 6] rfl)
            have lp90 : ∀ (kk90 : Nat) (yh : Int32) (hm : Int) (H1 : Heap) (locs1 : List Loc) (ls1 : Array Slot), a2.toInt - yh.toInt ≤ (kk90 : Int) → (0 ≤ yh.toInt) → (yh.toInt ≤ a2.toInt) → (hm = yh.toInt) → tG D (mF cI cL cC gC gE gW gA gT gI gS gM K F S N hm gJ_82 ge gk gf gs gg gr RN gb rV rN) t H1 → tF t wSw s.heap H1 locs1 → lv_has ls1 8 [(4, .int yh), (0, .ref a0), (1, .int a1), (2, .int a2), (3, .int a3)] → WW90 H1 locs1 (F0 m 70 ls1 []) := by
              intro kk90
              induction kk90 with
              | zero =>
                intro yh hm H locs ls hk90 v90_0 v90_1 v90_2 hG hS hl
                refine (hWW90 _ _ _).mpr ?_
                refine lv_iload hx hb dX10_swapped_70 (lv_at hl 0 rfl) ?_
                refine lv_iload_n hx hb dX10_swapped_72 rfl (lv_at hl 3 rfl) ?_
                refine lv_icmp_ge (tgt := 100) hx hb dX10_swapped_73 (by decide) (fun c_305 => ?_) (fun c_305 => ?_)
                · skip
                  have c_305 : a2.toInt ≤ yh.toInt := q_le c_305
                  exact (hWW90 _ _ _).mp (kx90 yh hm H locs ls v90_0 v90_1 v90_2 hG hS (lv_sub hl [0, 1, 2, 3, 4] rfl))
                · skip
                  have c_305 : yh.toInt < a2.toInt := q_nle c_305
                  exfalso; omega
              | succ kk90 ih90 =>
                intro yh hm H locs ls hk90 v90_0 v90_1 v90_2 hG hS hl
                refine (hWW90 _ _ _).mpr ?_
                refine lv_iload hx hb dX10_swapped_70 (lv_at hl 0 rfl) ?_
                refine lv_iload_n hx hb dX10_swapped_72 rfl (lv_at hl 3 rfl) ?_
                refine lv_icmp_ge (tgt := 100) hx hb dX10_swapped_73 (by decide) (fun c_306 => ?_) (fun c_306 => ?_)
                · skip
                  have c_306 : a2.toInt ≤ yh.toInt := q_le c_306
                  exact (hWW90 _ _ _).mp (kx90 yh hm H locs ls v90_0 v90_1 v90_2 hG hS (lv_sub hl [0, 1, 2, 3, 4] rfl))
                · skip
                  have c_306 : yh.toInt < a2.toInt := q_nle c_306
                  refine lv_aload_n hx hb dX10_swapped_76 rfl (lv_at hl 1 rfl) ?_
                  refine lv_pc (pc2 := 77) rfl ?_
                  refine lv_iconst (v := 0) hx hb dX10_swapped_77 (by decide) ?_
                  refine lv_iconst (v := 0) hx hb dX10_swapped_78 (by decide) ?_
                  obtain ⟨r_307, r_309, r_311, r_313, r_315, r_317, r_319, r_321, r_323, r_325, r_327, r_329, r_331, r_333, r_335, r_337, r_339, r_341, r_343, r_345, r_347, r_349, v_351, r_352, at_354, h_308, h_310, h_312, h_314, h_316, h_318, h_320, h_322, h_324, h_326, h_328, h_330, h_332, h_334, h_336, h_338, h_340, h_342, h_344, h_346, h_348, h_350, h_353⟩ := mF_o40 hG k_a0
                  refine tx_callv (W.runV (As := [.int 0, .int 0]) (rest := []) ⟨hx, hb, hml, hown, hts⟩ (m_X10_goes l D t cI cL cC gC gE gW gA gT gI gS gM K F S N hm gJ_82 ge gk gf gs gg gr RN gb rV rN a0 0 0 0 uq (by omega) (by omega) (by omega) (by omega) (by omega) hO0 (by omega) (by omega) (by omega) (by omega) k_a0) (cwV 2 hts gu_X10_swapped_X10_goes_231 rfl rfl rfl (by decide +kernel) ⟨Nat.le_of_ble_eq_true rfl, Nat.le_of_ble_eq_true rfl⟩) (tP_V hG hE at_354 rfl) rfl rfl hl.1 rfl (lv_room (Nat.le_of_ble_eq_true rfl)) dX10_swapped_79 ⟨Nat.le_of_ble_eq_true rfl, Nat.le_of_ble_eq_true rfl⟩) hS (wrL_sub (by decide)) (fun gH_359 H locs hp_356 hG hS o_357 => ?_)
                  have at_354 := va_at.keptC at_354 o_357 k_a0 rfl
                  replace hG : tG D (mF cI cL cC gC gE gW gA gT gI gS gM K F S N gH_359 gJ_82 ge gk gf gs gg gr RN gb rV rN) t H := hG
                  have hp_356 : gH_359 = hm + 1 := hp_356
                  have p_360 := hp_356
                  refine lv_aload_n hx hb dX10_swapped_82 rfl (lv_at hl 1 rfl) ?_
                  refine va_get (D := D) (ci := 9) (v := .ref r_352) (C := RX10) (T := TX10) (N := 36) hx hb hts in10 hown hK (va_one at_354) 0 rfl rfl 35 (by decide) (hts (.fieldLink RX10 77 "RiverModelModel" "own" "[J") (List.mem_of_getElem? (i := 25) rfl)) (fun _ h9 => h9) rfl dX10_swapped_83 ?_
                  refine lv_iload hx hb dX10_swapped_86 (lv_at hl 0 rfl) ?_
                  refine lv_aload_n hx hb dX10_swapped_88 rfl (lv_at hl 1 rfl) ?_
                  refine lv_iload_n hx hb dX10_swapped_89 rfl (lv_at hl 2 rfl) ?_
                  refine lv_pc (pc2 := 90) rfl ?_
                  refine ty_calll (W.runV (As := [.int a1]) (rest := [.int yh, .ref r_352]) ⟨hx, hb, hml, hown, hts⟩ (m_X10_reading l D t cI cL cC gC gE gW gA gT gI gS gM K F S N gH_359 gJ_82 ge gk gf gs gg gr RN gb rV rN a0 a1  uq (by omega) (by omega) k_a0) (cwV 1 hts gu_X10_swapped_X10_reading_251 rfl rfl rfl (by decide +kernel) ⟨Nat.le_of_ble_eq_true rfl, Nat.le_of_ble_eq_true rfl⟩) (tP_V hG hE at_354 rfl) rfl rfl hl.1 rfl (lv_room (Nat.le_of_ble_eq_true rfl)) dX10_swapped_90 ⟨Nat.le_of_ble_eq_true rfl, Nat.le_of_ble_eq_true rfl⟩) hS (fun k h => by simp [wr0] at h) (fun z_361 H locs hp_362 hG hS o_363 => ?_)
                  have at_354 := va_at.keptC at_354 o_363 k_a0 rfl
                  obtain ⟨f_365, at_366⟩ := mF_o63 hG h_353
                  have b_367 : vp_in yh 96 := (q_in (by omega) (by omega))
                  refine ty_last (F2 := (mF cI cL cC gC gE gW gA gT gI gS gM K F S N gH_359 gJ_82 ge gk gf gs gg gr RN gb rV rN)) hx hb hK hG hS 1 at_366 (by rw [h_353]; rfl) rfl b_367 (by rw [h_353]; exact ⟨_, rfl⟩) tFF dX10_swapped_93 (fun H locs hG hS at_368 o_369 => ?_)
                  have at_354 := va_at.keptK at_354 o_369 h_353 k_a0 rfl
                  obtain ⟨x_370, e_371⟩ : ∃ y : Int32, y = yh + Int32.ofInt 1 := ⟨_, rfl⟩
                  have i_x_370 : x_370.toInt = yh.toInt + 1 := by rw [e_371, show Int32.ofInt 1 = 1 by decide]; exact (q_add (by rw [show (1 : Int32).toInt = 1 by decide]; omega) (by rw [show (1 : Int32).toInt = 1 by decide]; omega)).trans (by rw [show (1 : Int32).toInt = 1 by decide])
                  refine lv_iinc (v := x_370) (lv' := [(4, .int x_370), (0, .ref a0), (1, .int a1), (2, .int a2), (3, .int a3)]) hx hb dX10_swapped_94 hl (k := 0) rfl e_371.symm (by decide) rfl (fun ls hl => ?_)
                  refine lv_goto (tgt := 70) hx hb dX10_swapped_97 (by decide) ?_
                  exact (hWW90 _ _ _).mp (ih90 x_370 gH_359 H locs ls (by omega) (by omega) (by omega) (by omega) hG hS (lv_sub hl [0, 1, 2, 3, 4] rfl))
            exact lp90 (a2.toInt - (0 : Int32).toInt : Int).toNat 0 gH_88 H locs ls (by omega) (by omega) (by omega) (by omega) hG hS (lv_sub hl [0, 1, 2, 3, 4] rfl)
          · skip
            have c_77 : gS.toInt = 0 := q_eq c_77
            refine lv_ldc2 hx hb hown (hts (.constantLong RX10 238 (-2)) (List.mem_of_getElem? (i := 26) rfl)) dX10_swapped_53 ?_
            have zl_m2 : ((-2) : Int64).toInt = (-2) := by decide
            exact tx_lret (z := (gH, gJ)) hx hb hr hlk hG hS ⟨(by show 0 ≤ gH; omega), (by show gH ≤ 96; omega)⟩ dX10_swapped_56
        · skip
          refine lv_if_eq (tgt := 53) hx hb dX10_swapped_43 (by decide) (fun _ => ?_) (fun q => absurd (by decide) q)
          refine lv_ldc2 hx hb hown (hts (.constantLong RX10 238 (-2)) (List.mem_of_getElem? (i := 26) rfl)) dX10_swapped_53 ?_
          refine lv_pc (pc2 := 56) rfl ?_
          have zl_m2 : ((-2) : Int64).toInt = (-2) := by decide
          exact tx_lret (z := (gH, gJ)) hx hb hr hlk hG hS ⟨(by show 0 ≤ gH; omega), (by show gH ≤ 96; omega)⟩ dX10_swapped_56
      · skip
        refine lv_if_ne (tgt := 38) hx hb dX10_swapped_31 (by decide) (fun q => absurd rfl q) (fun _ => ?_)
        refine lv_ldc2 hx hb hown (hts (.constantLong RX10 236 (-1)) (List.mem_of_getElem? (i := 27) rfl)) dX10_swapped_34 ?_
        have zl_m1 : ((-1) : Int64).toInt = (-1) := by decide
        exact tx_lret (z := (gH, gJ)) hx hb hr hlk hG hS ⟨(by show 0 ≤ gH; omega), (by show gH ≤ 96; omega)⟩ dX10_swapped_37
    · skip
      refine lv_if_eq (tgt := 34) hx hb dX10_swapped_21 (by decide) (fun _ => ?_) (fun q => absurd (by decide) q)
      refine lv_ldc2 hx hb hown (hts (.constantLong RX10 236 (-1)) (List.mem_of_getElem? (i := 27) rfl)) dX10_swapped_34 ?_
      have zl_m1 : ((-1) : Int64).toInt = (-1) := by decide
      exact tx_lret (z := (gH, gJ)) hx hb hr hlk hG hS ⟨(by show 0 ≤ gH; omega), (by show gH ≤ 96; omega)⟩ dX10_swapped_37
  · skip
    refine lv_if_eq (tgt := 34) hx hb dX10_swapped_9 (by decide) (fun _ => ?_) (fun q => absurd (by decide) q)
    refine lv_pc (pc2 := 34) rfl ?_
    refine lv_ldc2 hx hb hown (hts (.constantLong RX10 236 (-1)) (List.mem_of_getElem? (i := 27) rfl)) dX10_swapped_34 ?_
    have zl_m1 : ((-1) : Int64).toInt = (-1) := by decide
    exact tx_lret (z := (gH, gJ)) hx hb hr hlk hG hS ⟨(by show 0 ≤ gH; omega), (by show gH ≤ 96; omega)⟩ dX10_swapped_37
