theorem dX10_swap_0 : decode cX10_swap 0 = .ok (.iload_n 1, 1) := by decide +kernel
theorem dX10_swap_1 : decode cX10_swap 1 = .ok (.i2l, 1) := by decide +kernel
theorem dX10_swap_2 : decode cX10_swap 2 = .ok (.lconst 0, 1) := by decide +kernel
theorem dX10_swap_3 : decode cX10_swap 3 = .ok (.ldc2_w 194, 3) := by decide +kernel
theorem dX10_swap_6 : decode cX10_swap 6 = .ok (.invokestatic 85, 3) := by decide +kernel
theorem dX10_swap_9 : decode cX10_swap 9 = .ok (.ifCond .ne 5, 3) := by decide +kernel
theorem dX10_swap_12 : decode cX10_swap 12 = .ok (.iconst (-1), 1) := by decide +kernel
theorem dX10_swap_13 : decode cX10_swap 13 = .ok (.ireturn, 1) := by decide +kernel
theorem dX10_swap_14 : decode cX10_swap 14 = .ok (.aload_n 0, 1) := by decide +kernel
theorem dX10_swap_15 : decode cX10_swap 15 = .ok (.getfield 173, 3) := by decide +kernel
theorem dX10_swap_18 : decode cX10_swap 18 = .ok (.ifCond .eq 11, 3) := by decide +kernel
theorem dX10_swap_21 : decode cX10_swap 21 = .ok (.iload_n 1, 1) := by decide +kernel
theorem dX10_swap_22 : decode cX10_swap 22 = .ok (.aload_n 0, 1) := by decide +kernel
theorem dX10_swap_23 : decode cX10_swap 23 = .ok (.getfield 163, 3) := by decide +kernel
theorem dX10_swap_26 : decode cX10_swap 26 = .ok (.if_icmp .lt 6, 3) := by decide +kernel
theorem dX10_swap_29 : decode cX10_swap 29 = .ok (.bipush (-2), 2) := by decide +kernel
theorem dX10_swap_31 : decode cX10_swap 31 = .ok (.ireturn, 1) := by decide +kernel
theorem dX10_swap_32 : decode cX10_swap 32 = .ok (.iconst 0, 1) := by decide +kernel
theorem dX10_swap_33 : decode cX10_swap 33 = .ok (.istore_n 2, 1) := by decide +kernel
theorem dX10_swap_34 : decode cX10_swap 34 = .ok (.iconst 0, 1) := by decide +kernel
theorem dX10_swap_35 : decode cX10_swap 35 = .ok (.istore_n 3, 1) := by decide +kernel
theorem dX10_swap_36 : decode cX10_swap 36 = .ok (.iload_n 3, 1) := by decide +kernel
theorem dX10_swap_37 : decode cX10_swap 37 = .ok (.iload_n 1, 1) := by decide +kernel
theorem dX10_swap_38 : decode cX10_swap 38 = .ok (.if_icmp .ge 35, 3) := by decide +kernel
theorem dX10_swap_41 : decode cX10_swap 41 = .ok (.iload_n 2, 1) := by decide +kernel
theorem dX10_swap_42 : decode cX10_swap 42 = .ok (.aload_n 0, 1) := by decide +kernel
theorem dX10_swap_43 : decode cX10_swap 43 = .ok (.getfield 13, 3) := by decide +kernel
theorem dX10_swap_46 : decode cX10_swap 46 = .ok (.iload_n 3, 1) := by decide +kernel
theorem dX10_swap_47 : decode cX10_swap 47 = .ok (.iaload, 1) := by decide +kernel
theorem dX10_swap_48 : decode cX10_swap 48 = .ok (.bipush 115, 2) := by decide +kernel
theorem dX10_swap_50 : decode cX10_swap 50 = .ok (.if_icmp .ne 14, 3) := by decide +kernel
theorem dX10_swap_53 : decode cX10_swap 53 = .ok (.iconst 1, 1) := by decide +kernel
theorem dX10_swap_54 : decode cX10_swap 54 = .ok (.aload_n 0, 1) := by decide +kernel
theorem dX10_swap_55 : decode cX10_swap 55 = .ok (.getfield 16, 3) := by decide +kernel
theorem dX10_swap_58 : decode cX10_swap 58 = .ok (.iload_n 3, 1) := by decide +kernel
theorem dX10_swap_59 : decode cX10_swap 59 = .ok (.iaload, 1) := by decide +kernel
theorem dX10_swap_60 : decode cX10_swap 60 = .ok (.ishl, 1) := by decide +kernel
theorem dX10_swap_61 : decode cX10_swap 61 = .ok (.goto 4, 3) := by decide +kernel
theorem dX10_swap_64 : decode cX10_swap 64 = .ok (.iconst 0, 1) := by decide +kernel
theorem dX10_swap_65 : decode cX10_swap 65 = .ok (.ior, 1) := by decide +kernel
theorem dX10_swap_66 : decode cX10_swap 66 = .ok (.istore_n 2, 1) := by decide +kernel
theorem dX10_swap_67 : decode cX10_swap 67 = .ok (.iinc 3 1, 3) := by decide +kernel
theorem dX10_swap_70 : decode cX10_swap 70 = .ok (.goto (-34), 3) := by decide +kernel
theorem dX10_swap_73 : decode cX10_swap 73 = .ok (.aload_n 0, 1) := by decide +kernel
theorem dX10_swap_74 : decode cX10_swap 74 = .ok (.getfield 13, 3) := by decide +kernel
theorem dX10_swap_77 : decode cX10_swap 77 = .ok (.iload_n 1, 1) := by decide +kernel
theorem dX10_swap_78 : decode cX10_swap 78 = .ok (.iaload, 1) := by decide +kernel
theorem dX10_swap_79 : decode cX10_swap 79 = .ok (.bipush 115, 2) := by decide +kernel
theorem dX10_swap_81 : decode cX10_swap 81 = .ok (.if_icmp .ne 7, 3) := by decide +kernel
theorem dX10_swap_84 : decode cX10_swap 84 = .ok (.iconst 1, 1) := by decide +kernel
theorem dX10_swap_85 : decode cX10_swap 85 = .ok (.goto 4, 3) := by decide +kernel
theorem dX10_swap_88 : decode cX10_swap 88 = .ok (.iconst 0, 1) := by decide +kernel
theorem dX10_swap_89 : decode cX10_swap 89 = .ok (.istore_n 3, 1) := by decide +kernel
theorem dX10_swap_90 : decode cX10_swap 90 = .ok (.aload_n 0, 1) := by decide +kernel
theorem dX10_swap_91 : decode cX10_swap 91 = .ok (.getfield 13, 3) := by decide +kernel
theorem dX10_swap_94 : decode cX10_swap 94 = .ok (.iload_n 1, 1) := by decide +kernel
theorem dX10_swap_95 : decode cX10_swap 95 = .ok (.iaload, 1) := by decide +kernel
theorem dX10_swap_96 : decode cX10_swap 96 = .ok (.bipush 103, 2) := by decide +kernel
theorem dX10_swap_98 : decode cX10_swap 98 = .ok (.if_icmp .ne 7, 3) := by decide +kernel
theorem dX10_swap_101 : decode cX10_swap 101 = .ok (.iconst 1, 1) := by decide +kernel
theorem dX10_swap_102 : decode cX10_swap 102 = .ok (.goto 4, 3) := by decide +kernel
theorem dX10_swap_105 : decode cX10_swap 105 = .ok (.iconst 0, 1) := by decide +kernel
theorem dX10_swap_106 : decode cX10_swap 106 = .ok (.istore 4, 2) := by decide +kernel
theorem dX10_swap_108 : decode cX10_swap 108 = .ok (.aload_n 0, 1) := by decide +kernel
theorem dX10_swap_109 : decode cX10_swap 109 = .ok (.iconst 0, 1) := by decide +kernel
theorem dX10_swap_110 : decode cX10_swap 110 = .ok (.iload_n 2, 1) := by decide +kernel
theorem dX10_swap_111 : decode cX10_swap 111 = .ok (.iconst 0, 1) := by decide +kernel
theorem dX10_swap_112 : decode cX10_swap 112 = .ok (.invokevirtual 151, 3) := by decide +kernel
theorem dX10_swap_115 : decode cX10_swap 115 = .ok (.ifCond .eq 68, 3) := by decide +kernel
theorem dX10_swap_118 : decode cX10_swap 118 = .ok (.aload_n 0, 1) := by decide +kernel
theorem dX10_swap_119 : decode cX10_swap 119 = .ok (.getfield 109, 3) := by decide +kernel
theorem dX10_swap_122 : decode cX10_swap 122 = .ok (.aload_n 0, 1) := by decide +kernel
theorem dX10_swap_123 : decode cX10_swap 123 = .ok (.getfield 89, 3) := by decide +kernel
theorem dX10_swap_126 : decode cX10_swap 126 = .ok (.if_icmp .ne 57, 3) := by decide +kernel
theorem dX10_swap_129 : decode cX10_swap 129 = .ok (.aload_n 0, 1) := by decide +kernel
theorem dX10_swap_130 : decode cX10_swap 130 = .ok (.getfield 125, 3) := by decide +kernel
theorem dX10_swap_133 : decode cX10_swap 133 = .ok (.bipush 115, 2) := by decide +kernel
theorem dX10_swap_135 : decode cX10_swap 135 = .ok (.if_icmp .ne 7, 3) := by decide +kernel
theorem dX10_swap_138 : decode cX10_swap 138 = .ok (.iconst 1, 1) := by decide +kernel
theorem dX10_swap_139 : decode cX10_swap 139 = .ok (.goto 4, 3) := by decide +kernel
theorem dX10_swap_142 : decode cX10_swap 142 = .ok (.iconst 0, 1) := by decide +kernel
theorem dX10_swap_143 : decode cX10_swap 143 = .ok (.iload_n 3, 1) := by decide +kernel
theorem dX10_swap_144 : decode cX10_swap 144 = .ok (.if_icmp .ne 39, 3) := by decide +kernel
theorem dX10_swap_147 : decode cX10_swap 147 = .ok (.aload_n 0, 1) := by decide +kernel
theorem dX10_swap_148 : decode cX10_swap 148 = .ok (.getfield 125, 3) := by decide +kernel
theorem dX10_swap_151 : decode cX10_swap 151 = .ok (.bipush 103, 2) := by decide +kernel
theorem dX10_swap_153 : decode cX10_swap 153 = .ok (.if_icmp .ne 7, 3) := by decide +kernel
theorem dX10_swap_156 : decode cX10_swap 156 = .ok (.iconst 1, 1) := by decide +kernel
theorem dX10_swap_157 : decode cX10_swap 157 = .ok (.goto 4, 3) := by decide +kernel
theorem dX10_swap_160 : decode cX10_swap 160 = .ok (.iconst 0, 1) := by decide +kernel
theorem dX10_swap_161 : decode cX10_swap 161 = .ok (.iload 4, 2) := by decide +kernel
theorem dX10_swap_163 : decode cX10_swap 163 = .ok (.if_icmp .ne 20, 3) := by decide +kernel
theorem dX10_swap_166 : decode cX10_swap 166 = .ok (.iload_n 3, 1) := by decide +kernel
theorem dX10_swap_167 : decode cX10_swap 167 = .ok (.ifCond .eq 19, 3) := by decide +kernel
theorem dX10_swap_170 : decode cX10_swap 170 = .ok (.aload_n 0, 1) := by decide +kernel
theorem dX10_swap_171 : decode cX10_swap 171 = .ok (.getfield 135, 3) := by decide +kernel
theorem dX10_swap_174 : decode cX10_swap 174 = .ok (.aload_n 0, 1) := by decide +kernel
theorem dX10_swap_175 : decode cX10_swap 175 = .ok (.getfield 16, 3) := by decide +kernel
theorem dX10_swap_178 : decode cX10_swap 178 = .ok (.iload_n 1, 1) := by decide +kernel
theorem dX10_swap_179 : decode cX10_swap 179 = .ok (.iaload, 1) := by decide +kernel
theorem dX10_swap_180 : decode cX10_swap 180 = .ok (.if_icmp .eq 6, 3) := by decide +kernel
theorem dX10_swap_183 : decode cX10_swap 183 = .ok (.bipush (-2), 2) := by decide +kernel
theorem dX10_swap_185 : decode cX10_swap 185 = .ok (.ireturn, 1) := by decide +kernel
theorem dX10_swap_186 : decode cX10_swap 186 = .ok (.aload_n 0, 1) := by decide +kernel
theorem dX10_swap_187 : decode cX10_swap 187 = .ok (.iconst 2, 1) := by decide +kernel
theorem dX10_swap_188 : decode cX10_swap 188 = .ok (.iconst 0, 1) := by decide +kernel
theorem dX10_swap_189 : decode cX10_swap 189 = .ok (.invokevirtual 170, 3) := by decide +kernel
theorem dX10_swap_192 : decode cX10_swap 192 = .ok (.aload_n 0, 1) := by decide +kernel
theorem dX10_swap_193 : decode cX10_swap 193 = .ok (.iconst 2, 1) := by decide +kernel
theorem dX10_swap_194 : decode cX10_swap 194 = .ok (.iload_n 1, 1) := by decide +kernel
theorem dX10_swap_195 : decode cX10_swap 195 = .ok (.invokevirtual 155, 3) := by decide +kernel
theorem dX10_swap_198 : decode cX10_swap 198 = .ok (.aload_n 0, 1) := by decide +kernel
theorem dX10_swap_199 : decode cX10_swap 199 = .ok (.iconst 1, 1) := by decide +kernel
theorem dX10_swap_200 : decode cX10_swap 200 = .ok (.putfield 177, 3) := by decide +kernel
theorem dX10_swap_203 : decode cX10_swap 203 = .ok (.iconst 0, 1) := by decide +kernel
theorem dX10_swap_204 : decode cX10_swap 204 = .ok (.ireturn, 1) := by decide +kernel
theorem dX10_swapped_0 : decode cX10_swapped 0 = .ok (.iload_n 1, 1) := by decide +kernel
theorem dX10_swapped_1 : decode cX10_swapped 1 = .ok (.i2l, 1) := by decide +kernel
theorem dX10_swapped_2 : decode cX10_swapped 2 = .ok (.lconst 0, 1) := by decide +kernel
theorem dX10_swapped_3 : decode cX10_swapped 3 = .ok (.ldc2_w 243, 3) := by decide +kernel
theorem dX10_swapped_6 : decode cX10_swapped 6 = .ok (.invokestatic 85, 3) := by decide +kernel
theorem dX10_swapped_9 : decode cX10_swapped 9 = .ok (.ifCond .eq 25, 3) := by decide +kernel
theorem dX10_swapped_12 : decode cX10_swapped 12 = .ok (.iload_n 2, 1) := by decide +kernel
theorem dX10_swapped_13 : decode cX10_swapped 13 = .ok (.i2l, 1) := by decide +kernel
theorem dX10_swapped_14 : decode cX10_swapped 14 = .ok (.lconst 1, 1) := by decide +kernel
theorem dX10_swapped_15 : decode cX10_swapped 15 = .ok (.ldc2_w 229, 3) := by decide +kernel
theorem dX10_swapped_18 : decode cX10_swapped 18 = .ok (.invokestatic 85, 3) := by decide +kernel
theorem dX10_swapped_21 : decode cX10_swapped 21 = .ok (.ifCond .eq 13, 3) := by decide +kernel
theorem dX10_swapped_24 : decode cX10_swapped 24 = .ok (.iload_n 3, 1) := by decide +kernel
theorem dX10_swapped_25 : decode cX10_swapped 25 = .ok (.i2l, 1) := by decide +kernel
theorem dX10_swapped_26 : decode cX10_swapped 26 = .ok (.lconst 0, 1) := by decide +kernel
theorem dX10_swapped_27 : decode cX10_swapped 27 = .ok (.lconst 1, 1) := by decide +kernel
theorem dX10_swapped_28 : decode cX10_swapped 28 = .ok (.invokestatic 85, 3) := by decide +kernel
theorem dX10_swapped_31 : decode cX10_swapped 31 = .ok (.ifCond .ne 7, 3) := by decide +kernel
theorem dX10_swapped_34 : decode cX10_swapped 34 = .ok (.ldc2_w 236, 3) := by decide +kernel
theorem dX10_swapped_37 : decode cX10_swapped 37 = .ok (.lreturn, 1) := by decide +kernel
theorem dX10_swapped_38 : decode cX10_swapped 38 = .ok (.aload_n 0, 1) := by decide +kernel
theorem dX10_swapped_39 : decode cX10_swapped 39 = .ok (.iload_n 1, 1) := by decide +kernel
theorem dX10_swapped_40 : decode cX10_swapped 40 = .ok (.invokevirtual 248, 3) := by decide +kernel
theorem dX10_swapped_43 : decode cX10_swapped 43 = .ok (.ifCond .eq 10, 3) := by decide +kernel
theorem dX10_swapped_46 : decode cX10_swapped 46 = .ok (.aload_n 0, 1) := by decide +kernel
theorem dX10_swapped_47 : decode cX10_swapped 47 = .ok (.getfield 177, 3) := by decide +kernel
theorem dX10_swapped_50 : decode cX10_swapped 50 = .ok (.ifCond .ne 7, 3) := by decide +kernel
theorem dX10_swapped_53 : decode cX10_swapped 53 = .ok (.ldc2_w 238, 3) := by decide +kernel
theorem dX10_swapped_56 : decode cX10_swapped 56 = .ok (.lreturn, 1) := by decide +kernel
theorem dX10_swapped_57 : decode cX10_swapped 57 = .ok (.aload_n 0, 1) := by decide +kernel
theorem dX10_swapped_58 : decode cX10_swapped 58 = .ok (.invokevirtual 274, 3) := by decide +kernel
theorem dX10_swapped_61 : decode cX10_swapped 61 = .ok (.aload_n 0, 1) := by decide +kernel
theorem dX10_swapped_62 : decode cX10_swapped 62 = .ok (.iconst 0, 1) := by decide +kernel
theorem dX10_swapped_63 : decode cX10_swapped 63 = .ok (.iconst 0, 1) := by decide +kernel
theorem dX10_swapped_64 : decode cX10_swapped 64 = .ok (.invokevirtual 186, 3) := by decide +kernel
theorem dX10_swapped_67 : decode cX10_swapped 67 = .ok (.iconst 0, 1) := by decide +kernel
theorem dX10_swapped_68 : decode cX10_swapped 68 = .ok (.istore 4, 2) := by decide +kernel
theorem dX10_swapped_70 : decode cX10_swapped 70 = .ok (.iload 4, 2) := by decide +kernel
theorem dX10_swapped_72 : decode cX10_swapped 72 = .ok (.iload_n 2, 1) := by decide +kernel
theorem dX10_swapped_73 : decode cX10_swapped 73 = .ok (.if_icmp .ge 27, 3) := by decide +kernel
theorem dX10_swapped_76 : decode cX10_swapped 76 = .ok (.aload_n 0, 1) := by decide +kernel
theorem dX10_swapped_77 : decode cX10_swapped 77 = .ok (.iconst 0, 1) := by decide +kernel
theorem dX10_swapped_78 : decode cX10_swapped 78 = .ok (.iconst 0, 1) := by decide +kernel
theorem dX10_swapped_79 : decode cX10_swapped 79 = .ok (.invokevirtual 231, 3) := by decide +kernel
theorem dX10_swapped_82 : decode cX10_swapped 82 = .ok (.aload_n 0, 1) := by decide +kernel
theorem dX10_swapped_83 : decode cX10_swapped 83 = .ok (.getfield 77, 3) := by decide +kernel
theorem dX10_swapped_86 : decode cX10_swapped 86 = .ok (.iload 4, 2) := by decide +kernel
theorem dX10_swapped_88 : decode cX10_swapped 88 = .ok (.aload_n 0, 1) := by decide +kernel
theorem dX10_swapped_89 : decode cX10_swapped 89 = .ok (.iload_n 1, 1) := by decide +kernel
theorem dX10_swapped_90 : decode cX10_swapped 90 = .ok (.invokevirtual 251, 3) := by decide +kernel
theorem dX10_swapped_93 : decode cX10_swapped 93 = .ok (.lastore, 1) := by decide +kernel
theorem dX10_swapped_94 : decode cX10_swapped 94 = .ok (.iinc 4 1, 3) := by decide +kernel
theorem dX10_swapped_97 : decode cX10_swapped 97 = .ok (.goto (-27), 3) := by decide +kernel
theorem dX10_swapped_100 : decode cX10_swapped 100 = .ok (.aload_n 0, 1) := by decide +kernel
theorem dX10_swapped_101 : decode cX10_swapped 101 = .ok (.iconst 2, 1) := by decide +kernel
theorem dX10_swapped_102 : decode cX10_swapped 102 = .ok (.iconst 0, 1) := by decide +kernel
theorem dX10_swapped_103 : decode cX10_swapped 103 = .ok (.invokevirtual 186, 3) := by decide +kernel
theorem dX10_swapped_106 : decode cX10_swapped 106 = .ok (.bipush (-4), 2) := by decide +kernel
theorem dX10_swapped_108 : decode cX10_swapped 108 = .ok (.istore 4, 2) := by decide +kernel
theorem dX10_swapped_110 : decode cX10_swapped 110 = .ok (.lconst 0, 1) := by decide +kernel
theorem dX10_swapped_111 : decode cX10_swapped 111 = .ok (.lstore 5, 2) := by decide +kernel
theorem dX10_swapped_113 : decode cX10_swapped 113 = .ok (.iconst 0, 1) := by decide +kernel
theorem dX10_swapped_114 : decode cX10_swapped 114 = .ok (.istore 7, 2) := by decide +kernel
theorem dX10_swapped_116 : decode cX10_swapped 116 = .ok (.iload 7, 2) := by decide +kernel
theorem dX10_swapped_118 : decode cX10_swapped 118 = .ok (.iload_n 2, 1) := by decide +kernel
theorem dX10_swapped_119 : decode cX10_swapped 119 = .ok (.if_icmp .ge 63, 3) := by decide +kernel
theorem dX10_swapped_122 : decode cX10_swapped 122 = .ok (.aload_n 0, 1) := by decide +kernel
theorem dX10_swapped_123 : decode cX10_swapped 123 = .ok (.iconst 2, 1) := by decide +kernel
theorem dX10_swapped_124 : decode cX10_swapped 124 = .ok (.iconst 0, 1) := by decide +kernel
theorem dX10_swapped_125 : decode cX10_swapped 125 = .ok (.invokevirtual 231, 3) := by decide +kernel
theorem dX10_swapped_128 : decode cX10_swapped 128 = .ok (.iload 4, 2) := by decide +kernel
theorem dX10_swapped_130 : decode cX10_swapped 130 = .ok (.ifCond .ge 24, 3) := by decide +kernel
theorem dX10_swapped_133 : decode cX10_swapped 133 = .ok (.aload_n 0, 1) := by decide +kernel
theorem dX10_swapped_134 : decode cX10_swapped 134 = .ok (.iload_n 1, 1) := by decide +kernel
theorem dX10_swapped_135 : decode cX10_swapped 135 = .ok (.invokevirtual 251, 3) := by decide +kernel
theorem dX10_swapped_138 : decode cX10_swapped 138 = .ok (.aload_n 0, 1) := by decide +kernel
theorem dX10_swapped_139 : decode cX10_swapped 139 = .ok (.getfield 77, 3) := by decide +kernel
theorem dX10_swapped_142 : decode cX10_swapped 142 = .ok (.iload 7, 2) := by decide +kernel
theorem dX10_swapped_144 : decode cX10_swapped 144 = .ok (.laload, 1) := by decide +kernel
theorem dX10_swapped_145 : decode cX10_swapped 145 = .ok (.lcmp, 1) := by decide +kernel
theorem dX10_swapped_146 : decode cX10_swapped 146 = .ok (.ifCond .eq 8, 3) := by decide +kernel
theorem dX10_swapped_149 : decode cX10_swapped 149 = .ok (.iload 7, 2) := by decide +kernel
theorem dX10_swapped_151 : decode cX10_swapped 151 = .ok (.goto 5, 3) := by decide +kernel
theorem dX10_swapped_154 : decode cX10_swapped 154 = .ok (.iload 4, 2) := by decide +kernel
theorem dX10_swapped_156 : decode cX10_swapped 156 = .ok (.istore 4, 2) := by decide +kernel
theorem dX10_swapped_158 : decode cX10_swapped 158 = .ok (.lload 5, 2) := by decide +kernel
theorem dX10_swapped_160 : decode cX10_swapped 160 = .ok (.aload_n 0, 1) := by decide +kernel
theorem dX10_swapped_161 : decode cX10_swapped 161 = .ok (.iload_n 1, 1) := by decide +kernel
theorem dX10_swapped_162 : decode cX10_swapped 162 = .ok (.invokevirtual 251, 3) := by decide +kernel
theorem dX10_swapped_165 : decode cX10_swapped 165 = .ok (.aload_n 0, 1) := by decide +kernel
theorem dX10_swapped_166 : decode cX10_swapped 166 = .ok (.getfield 77, 3) := by decide +kernel
theorem dX10_swapped_169 : decode cX10_swapped 169 = .ok (.iload 7, 2) := by decide +kernel
theorem dX10_swapped_171 : decode cX10_swapped 171 = .ok (.laload, 1) := by decide +kernel
theorem dX10_swapped_172 : decode cX10_swapped 172 = .ok (.lsub, 1) := by decide +kernel
theorem dX10_swapped_173 : decode cX10_swapped 173 = .ok (.ladd, 1) := by decide +kernel
theorem dX10_swapped_174 : decode cX10_swapped 174 = .ok (.lstore 5, 2) := by decide +kernel
theorem dX10_swapped_176 : decode cX10_swapped 176 = .ok (.iinc 7 1, 3) := by decide +kernel
theorem dX10_swapped_179 : decode cX10_swapped 179 = .ok (.goto (-63), 3) := by decide +kernel
theorem dX10_swapped_182 : decode cX10_swapped 182 = .ok (.aload_n 0, 1) := by decide +kernel
theorem dX10_swapped_183 : decode cX10_swapped 183 = .ok (.invokevirtual 277, 3) := by decide +kernel
theorem dX10_swapped_186 : decode cX10_swapped 186 = .ok (.iload_n 3, 1) := by decide +kernel
theorem dX10_swapped_187 : decode cX10_swapped 187 = .ok (.ifCond .ne 9, 3) := by decide +kernel
theorem dX10_swapped_190 : decode cX10_swapped 190 = .ok (.iload 4, 2) := by decide +kernel
theorem dX10_swapped_192 : decode cX10_swapped 192 = .ok (.i2l, 1) := by decide +kernel
theorem dX10_swapped_193 : decode cX10_swapped 193 = .ok (.goto 5, 3) := by decide +kernel
theorem dX10_swapped_196 : decode cX10_swapped 196 = .ok (.lload 5, 2) := by decide +kernel
theorem dX10_swapped_198 : decode cX10_swapped 198 = .ok (.lreturn, 1) := by decide +kernel
def uX10_swap : List Cond := .code yX10_swap cX10_swap 5 (some .int) :: ([.constantLong RX10 194 (39), .methodLink RX10 85 yX10_in, .static yX10_in, .initialized RX10, .fieldLink RX10 173 "RiverModelModel" "isBuilt" "Z", .fieldLink RX10 163 "RiverModelModel" "items" "I", .fieldLink RX10 13 "RiverModelModel" "kind" "[I", .methodLink RX10 151 yX10_readsItem, .instanceMethod yX10_readsItem, .selects RX10 yX10_readsItem yX10_readsItem, .fieldLink RX10 109 "RiverModelModel" "end" "I", .fieldLink RX10 89 "RiverModelModel" "length" "I", .fieldLink RX10 125 "RiverModelModel" "readKind" "I", .methodLink RX10 170 yX10_copies, .instanceMethod yX10_copies, .selects RX10 yX10_copies yX10_copies, .methodLink RX10 155 yX10_lays, .instanceMethod yX10_lays, .selects RX10 yX10_lays yX10_lays, .fieldLink RX10 177 "RiverModelModel" "isSwapped" "Z", .fieldLink RX10 135 "RiverModelModel" "readFirst" "I", .fieldLink RX10 16 "RiverModelModel" "first" "[I", .code yX10_in cX10_in 6 (some .boolean), .code yX10_readsItem cX10_readsItem 8 (some .boolean), .methodLink RX10 112 yX10_byteAt, .instanceMethod yX10_byteAt, .selects RX10 yX10_byteAt yX10_byteAt, .methodLink RX10 128 yX10_shape, .static yX10_shape, .methodLink RX10 131 yX10_isName, .static yX10_isName, .fieldLink RX10 138 "RiverModelModel" "readSecond" "I", .fieldLink RX10 74 "RiverModelModel" "readNumber" "[I", .methodLink RX10 144 yX10_areWell, .static yX10_areWell, .methodLink RX10 141 yX10_readsNumber, .instanceMethod yX10_readsNumber, .selects RX10 yX10_readsNumber yX10_readsNumber, .code yX10_byteAt cX10_byteAt 2 (some .int), .fieldLink RX10 7 "RiverModelModel" "text" "[I", .code yX10_shape cX10_shape 1 (some .int), .code yX10_isName cX10_isName 1 (some .boolean), .constantLong RX10 95 (97), .constantLong RX10 97 (112), .code yX10_areWell cX10_areWell 4 (some .boolean), .constantLong RX10 101 (1000), .constantLong RX10 103 (10000), .constantLong RX10 99 (1000000), .constantLong RX10 107 (100), .constantLong RX10 105 (12), .code yX10_readsNumber cX10_readsNumber 3 (some .boolean), .fieldLink RX10 116 "RiverModelModel" "figures" "I", .constantLong RX10 123 (7), .constantLong RX10 119 (48), .constantLong RX10 121 (57), .code yX10_copies cX10_copies 4 none, .fieldLink RX10 22 "RiverModelModel" "number" "[I", .fieldLink RX10 19 "RiverModelModel" "second" "[I", .code yX10_lays cX10_lays 5 none] ++ wsX100)
set_option maxRecDepth 20000 in
theorem gu_X10_swap_X10_in_85 : GoodIn uX10_swap (va_wsS RX10 85 yX10_in uX10_in) := goodIn_r _ [2, 3, 4, 23] rfl (by decide +kernel)
set_option maxRecDepth 20000 in
theorem gu_X10_swap_X10_readsItem_151 : GoodIn uX10_swap (wsV RX10 151 RX10 yX10_readsItem uX10_readsItem) := goodIn_r _ [8, 9, 10, 4, 24, 11, 25, 26, 27, 4, 13, 28, 29, 30, 31, 21, 32, 33, 34, 35, 36, 37, 38, 39, 12, 40, 41, 42, 43, 44, 2, 3, 23, 45, 46, 47, 48, 49, 50, 51, 52, 53, 54, 55, 60, 61, 62, 63, 64, 65, 66, 67, 68, 69, 70, 71, 72, 73, 74, 75, 76, 77, 78, 79, 80, 81, 82, 83, 84, 85, 86, 87, 88, 89, 90, 91, 92, 93, 94, 95] rfl (by decide +kernel)
set_option maxRecDepth 20000 in
theorem gu_X10_swap_X10_copies_170 : GoodIn uX10_swap (wsV RX10 170 RX10 yX10_copies uX10_copies) := goodIn_r _ [14, 15, 16, 4, 56, 57, 7, 22, 58, 60, 61, 62, 63, 64, 65, 66, 67, 68, 69, 70, 71, 72, 73, 74, 75, 76, 77, 78, 79, 80, 81, 82, 83, 84, 85, 86, 87, 88, 89, 90, 91, 92, 93, 94, 95] rfl (by decide +kernel)
set_option maxRecDepth 20000 in
theorem gu_X10_swap_X10_lays_155 : GoodIn uX10_swap (wsV RX10 155 RX10 yX10_lays uX10_lays) := goodIn_r _ [17, 18, 19, 4, 59, 7, 13, 22, 21, 58, 32, 57, 33, 60, 61, 62, 63, 64, 65, 66, 67, 68, 69, 70, 71, 72, 73, 74, 75, 76, 77, 78, 79, 80, 81, 82, 83, 84, 85, 86, 87, 88, 89, 90, 91, 92, 93, 94, 95] rfl (by decide +kernel)
set_option maxHeartbeats 4000000 in
set_option maxRecDepth 100000 in
theorem m_X10_swap (l : Launch) (D : va_G) (t : Nat → Nat) (cI cL cC : ClassId) (gC : Int32) (gE : Int32) (gW : Nat → Int32) (gA : Nat → Int32) (gT : Nat → Int32) (gI : Int32) (gS : Int32) (gM : Int32) (K : Nat → Int32) (F : Nat → Int32) (S : Nat → Int32) (N : Nat → Int32) (gH : Int) (gJ : Int) (ge : Int32) (gk : Int32) (gf : Int32) (gs : Int32) (gg : Int32) (gr : Int32) (RN : Nat → Int32) (a0 : Nat) (a1 : Int32) (uq : ∀ b c : Nat, t b = t c → t b ≠ 0 → b = c) (hC0 : 0 ≤ gC.toInt) (hC4 : gC.toInt ≤ 400) (hI0 : 0 ≤ gI.toInt) (hI4 : gI.toInt ≤ 40) (hH0 : 0 ≤ gH) (hH9 : gH ≤ 96) (hm0 : 0 ≤ gM.toInt) (hm3 : gM.toInt ≤ 3) (hO0 : okM K F S N 0 gI.toInt) (hW : swM gS K F S N gI.toInt) (k_a0 : t a0 = 40) : tMx (Z := (Int32) × (Int32) × (Int32) × (Int32) × (Int32) × (Nat → Int32) × (Nat → Int32) × (Nat → Int32) × (Nat → Int32) × (Nat → Int32) × (Int32)) l yX10_swap uX10_swap 3 75 D (mF cI cL cC gC gE gW gA gT gI gS gM K F S N gH gJ ge gk gf gs gg gr RN) (fun z => (mF cI cL cC gC gE gW gA gT gI z.2.2.2.2.2.2.2.2.2.2 gM z.2.2.2.2.2.2.1 z.2.2.2.2.2.2.2.1 z.2.2.2.2.2.2.2.2.1 z.2.2.2.2.2.2.2.2.2.1 gH gJ z.1 z.2.1 z.2.2.1 z.2.2.2.1 z.2.2.2.2.1 gr z.2.2.2.2.2.1)) t cI cL cC [.ref a0, .int a1] wPI (xI (fun r (z : (Int32) × (Int32) × (Int32) × (Int32) × (Int32) × (Nat → Int32) × (Nat → Int32) × (Nat → Int32) × (Nat → Int32) × (Nat → Int32) × (Int32)) => okM z.2.2.2.2.2.2.1 z.2.2.2.2.2.2.2.1 z.2.2.2.2.2.2.2.2.1 z.2.2.2.2.2.2.2.2.2.1 0 gI.toInt ∧ swM z.2.2.2.2.2.2.2.2.2.2 z.2.2.2.2.2.2.1 z.2.2.2.2.2.2.2.1 z.2.2.2.2.2.2.2.2.1 z.2.2.2.2.2.2.2.2.2.1 gI.toInt)) := by
  refine tMx.ofW (cc := cX10_swap) (maxL := 5) (ret := (some .int)) (by decide) rfl (Nat.le_of_ble_eq_true rfl) ?_
  intro p e s m below meth c hx hb hr hml hown hts hlk H locs hG hK hE hS ls hl
  have hl : lv_has ls 5 [(0, .ref a0), (1, .int a1)] := hl
  have in10 : ∀ w ∈ wsX100, w ∈ uX10_swap := fun w h => List.mem_cons_of_mem _ (List.mem_append_right _ h)
  refine lv_iload_n hx hb dX10_swap_0 rfl (lv_at hl 1 rfl) ?_
  refine lv_i2l (v := a1.toInt64) hx hb dX10_swap_1 rfl ?_
  refine lv_lconst (v := 0) hx hb dX10_swap_2 (by decide) ?_
  refine lv_ldc2 hx hb hown (hts (.constantLong RX10 194 (39)) (List.mem_of_getElem? (i := 1) rfl)) dX10_swap_3 ?_
  have zl_0 : (0 : Int64).toInt = 0 := by decide
  have zl_39 : (39 : Int64).toInt = 39 := by decide
  refine ty_calli (W.runS (As := [.long a1.toInt64, .long 0, .long 39]) (rest := []) ⟨hx, hb, hml, hown, hts⟩ (m_X10_in l D t cI cL cC gC gE gW gA gT gI gS gM K F S N gH gJ ge gk gf gs gg gr RN a1.toInt64 0 39 a1.toInt 0 39 uq (q_i2l _) (by decide) (by decide) ) (va_cwS 3 hts gu_X10_swap_X10_in_85 rfl rfl rfl (by decide +kernel) ⟨Nat.le_of_ble_eq_true rfl, Nat.le_of_ble_eq_true rfl⟩) (tP_S hG hE) rfl rfl hl.1 rfl (lv_room (Nat.le_of_ble_eq_true rfl)) dX10_swap_6 ⟨Nat.le_of_ble_eq_true rfl, Nat.le_of_ble_eq_true rfl⟩) hS (fun k h => by simp [wr0] at h) (fun r_1 H locs hp_2 hG hS o_3 => ?_)
  have hp_2 : (r_1 = 1 ∧ 0 ≤ a1.toInt ∧ a1.toInt ≤ 39) ∨ (r_1 = 0 ∧ (a1.toInt < 0 ∨ 39 < a1.toInt)) := hp_2
  rcases hp_2 with ⟨rfl, p_5, p_6⟩ | ⟨rfl, p_7⟩
  · skip
    refine lv_if_ne (tgt := 14) hx hb dX10_swap_9 (by decide) (fun _ => ?_) (fun q => absurd q (by decide))
    refine lv_aload_n hx hb dX10_swap_14 rfl (lv_at hl 0 rfl) ?_
    refine lv_pc (pc2 := 15) rfl ?_
    obtain ⟨r_8, v_10, r_11, r_13, r_15, r_17, r_19, r_21, r_23, r_25, r_27, r_29, r_31, r_33, r_35, r_37, r_39, r_41, r_43, r_45, r_47, r_49, r_51, v_53, r_54, at_56, h_9, h_12, h_14, h_16, h_18, h_20, h_22, h_24, h_26, h_28, h_30, h_32, h_34, h_36, h_38, h_40, h_42, h_44, h_46, h_48, h_50, h_52, h_55⟩ := mF_o40 hG k_a0
    refine va_get (D := D) (ci := 9) (v := .int v_10) (C := RX10) (T := TX10) (N := 36) hx hb hts in10 hown hK (va_one at_56) 0 rfl rfl 2 (by decide) (hts (.fieldLink RX10 173 "RiverModelModel" "isBuilt" "Z") (List.mem_of_getElem? (i := 5) rfl)) (fun _ h9 => h9) rfl dX10_swap_15 ?_
    refine lv_if_eq (tgt := 29) hx hb dX10_swap_18 (by decide) (fun c_57 => ?_) (fun c_57 => ?_)
    · skip
      have c_57 : v_10.toInt = 0 := q_eq c_57
      refine lv_bipush (v := (-2)) hx hb dX10_swap_29 (by decide) ?_
      have zi_m2 : ((-2) : Int32).toInt = (-2) := by decide
      exact tx_iret (z := (ge, gk, gf, gs, gg, RN, K, F, S, N, gS)) hx hb hr hlk hG hS ⟨(show okM K F S N 0 gI.toInt from hO0), (show swM gS K F S N gI.toInt from hW)⟩ dX10_swap_31
    · skip
      have c_57 : v_10.toInt ≠ 0 := q_ne c_57
      refine lv_iload_n hx hb dX10_swap_21 rfl (lv_at hl 1 rfl) ?_
      refine lv_aload_n hx hb dX10_swap_22 rfl (lv_at hl 0 rfl) ?_
      refine va_get (D := D) (ci := 9) (v := .int gI) (C := RX10) (T := TX10) (N := 36) hx hb hts in10 hown hK (va_one at_56) 0 rfl rfl 3 (by decide) (hts (.fieldLink RX10 163 "RiverModelModel" "items" "I") (List.mem_of_getElem? (i := 6) rfl)) (fun _ h9 => h9) rfl dX10_swap_23 ?_
      refine lv_icmp_lt (tgt := 32) hx hb dX10_swap_26 (by decide) (fun c_58 => ?_) (fun c_58 => ?_)
      · skip
        have c_58 : a1.toInt < gI.toInt := q_lt c_58
        refine lv_pc (pc2 := 32) rfl ?_
        refine lv_iconst (v := 0) hx hb dX10_swap_32 (by decide) ?_
        refine lv_istore_n (lv' := [(2, .int 0), (0, .ref a0), (1, .int a1)]) hx hb dX10_swap_33 rfl hl (by decide) rfl (fun ls hl => ?_)
        refine lv_iconst (v := 0) hx hb dX10_swap_34 (by decide) ?_
        refine lv_istore_n (lv' := [(3, .int 0), (2, .int 0), (0, .ref a0), (1, .int a1)]) hx hb dX10_swap_35 rfl hl (by decide) rfl (fun ls hl => ?_)
        refine lv_pc (pc2 := 36) rfl ?_
        refine lp_gen (fun WW59 hWW59 => ?_)
        have kx59 : ∀ (yk : Int32) (yn : Int32) (H1 : Heap) (locs1 : List Loc) (ls1 : Array Slot), (0 ≤ yk.toInt) → (yk.toInt ≤ a1.toInt) → (nmS K F 0 yk.toInt yn) → (a1.toInt ≤ yk.toInt) → tG D (mF cI cL cC gC gE gW gA gT gI gS gM K F S N gH gJ ge gk gf gs gg gr RN) t H1 → tF t wPI s.heap H1 locs1 → lv_has ls1 5 [(3, .int yk), (2, .int yn), (0, .ref a0), (1, .int a1)] → WW59 H1 locs1 (F0 m 73 ls1 []) := by
          intro yk yn H locs ls v59_0 v59_1 v59_2 xf59_0 hG hS hl
          refine (hWW59 _ _ _).mpr ?_
          refine lv_aload_n hx hb dX10_swap_73 rfl (lv_at hl 2 rfl) ?_
          obtain ⟨r_60, v_62, r_63, r_65, r_67, r_69, r_71, r_73, r_75, r_77, r_79, r_81, r_83, r_85, r_87, r_89, r_91, r_93, r_95, r_97, r_99, r_101, r_103, v_105, r_106, at_108, h_61, h_64, h_66, h_68, h_70, h_72, h_74, h_76, h_78, h_80, h_82, h_84, h_86, h_88, h_90, h_92, h_94, h_96, h_98, h_100, h_102, h_104, h_107⟩ := mF_o40 hG k_a0
          refine va_get (D := D) (ci := 9) (v := .ref r_63) (C := RX10) (T := TX10) (N := 36) hx hb hts in10 hown hK (va_one at_108) 0 rfl rfl 4 (by decide) (hts (.fieldLink RX10 13 "RiverModelModel" "kind" "[I") (List.mem_of_getElem? (i := 7) rfl)) (fun _ h9 => h9) rfl dX10_swap_74 ?_
          refine lv_iload_n hx hb dX10_swap_77 rfl (lv_at hl 3 rfl) ?_
          have at_109 := mF_o42 hG h_64
          have b_110 : vp_in a1 120 := (q_in (by omega) (by omega))
          refine va_iald hx hb hK (va_one at_109) 0 0 rfl rfl b_110 dX10_swap_78 ?_
          refine lv_topi (fun x_111 e_112 => ?_)
          have w_x_111 : x_111 = K (0 + a1.toInt).toNat := by rw [e_112]; exact congrArg (fun q : Int => K q.toNat) (show a1.toInt = 0 + a1.toInt by omega)
          have i_x_111 : x_111.toInt = (K (0 + a1.toInt).toNat).toInt := by rw [w_x_111]
          refine lv_pc (pc2 := 79) rfl ?_
          refine lv_bipush (v := 115) hx hb dX10_swap_79 (by decide) ?_
          refine lv_icmp_ne (tgt := 88) hx hb dX10_swap_81 (by decide) (fun c_113 => ?_) (fun c_113 => ?_)
          · skip
            have c_113 : x_111.toInt ≠ 115 := q_ne c_113
            refine lv_iconst (v := 0) hx hb dX10_swap_88 (by decide) ?_
            refine lv_istore_n (lv' := [(3, .int 0), (2, .int yn), (0, .ref a0), (1, .int a1)]) hx hb dX10_swap_89 rfl hl (by decide) rfl (fun ls hl => ?_)
            refine lv_pc (pc2 := 90) rfl ?_
            refine lp_gen (fun WW114 hWW114 => ?_)
            have jn114 : ∀ (vj114 : Int32), (0 ≤ vj114.toInt) → (vj114.toInt ≤ 1) → WW114 H locs (F0 m 106 ls (.int vj114 :: [])) := by
              intro vj114 fj114_0 fj114_1
              refine (hWW114 _ _ _).mpr ?_
              refine lv_istore (lv' := [(4, .int vj114), (3, .int 0), (2, .int yn), (0, .ref a0), (1, .int a1)]) hx hb dX10_swap_106 hl (by decide) rfl (fun ls hl => ?_)
              refine lv_aload_n hx hb dX10_swap_108 rfl (lv_at hl 3 rfl) ?_
              refine lv_iconst (v := 0) hx hb dX10_swap_109 (by decide) ?_
              refine lv_iload_n hx hb dX10_swap_110 rfl (lv_at hl 2 rfl) ?_
              refine lv_pc (pc2 := 111) rfl ?_
              refine lv_iconst (v := 0) hx hb dX10_swap_111 (by decide) ?_
              have zi_0 : (0 : Int32).toInt = 0 := by decide
              refine tx_calli (W.runV (As := [.int 0, .int yn, .int 0]) (rest := []) ⟨hx, hb, hml, hown, hts⟩ (m_X10_readsItem l D t cI cL cC gC gE gW gA gT gI gS gM K F S N gH gJ ge gk gf gs gg gr RN a0 0 yn 0  uq (by omega) (by omega) (by omega) (by omega) k_a0) (cwV 3 hts gu_X10_swap_X10_readsItem_151 rfl rfl rfl (by decide +kernel) ⟨Nat.le_of_ble_eq_true rfl, Nat.le_of_ble_eq_true rfl⟩) (tP_V hG hE at_108 rfl) rfl rfl hl.1 rfl (lv_room (Nat.le_of_ble_eq_true rfl)) dX10_swap_112 ⟨Nat.le_of_ble_eq_true rfl, Nat.le_of_ble_eq_true rfl⟩) hS (wrL_sub (by decide)) (fun r_115 zz_118 H locs hp_116 hG hS o_117 => ?_)
              obtain ⟨ge_119, gk_120, gf_121, gs_122, gg_123, RN_124⟩ := zz_118
              have at_109 := va_at.keptC at_109 o_117 h_64 rfl
              replace hG : tG D (mF cI cL cC gC gE gW gA gT gI gS gM K F S N gH gJ ge_119 gk_120 gf_121 gs_122 gg_123 gr RN_124) t H := hG
              have hp_116 : (r_115 = 1 ∧ (0 : Int32).toInt < ge_119.toInt ∧ ge_119.toInt ≤ (0 : Int32).toInt + 40 ∧ itOk gk_120 gf_121 gs_122 (RN_124 0) (RN_124 1) ∧ nmOk gk_120 gf_121 yn) ∨ (r_115 = 0) := hp_116
              rcases hp_116 with ⟨rfl, p_125, p_126, p_127, p_128⟩ | rfl
              · skip
                refine lv_if_eq (tgt := 183) hx hb dX10_swap_115 (by decide) (fun q => absurd q (by decide)) (fun _ => ?_)
                refine lv_aload_n hx hb dX10_swap_118 rfl (lv_at hl 3 rfl) ?_
                obtain ⟨r_129, v_131, r_132, r_134, r_136, r_138, r_140, r_142, r_144, r_146, r_148, r_150, r_152, r_154, r_156, r_158, r_160, r_162, r_164, r_166, r_168, r_170, r_172, v_174, r_175, at_177, h_130, h_133, h_135, h_137, h_139, h_141, h_143, h_145, h_147, h_149, h_151, h_153, h_155, h_157, h_159, h_161, h_163, h_165, h_167, h_169, h_171, h_173, h_176⟩ := mF_o40 hG k_a0
                refine va_get (D := D) (ci := 9) (v := .int ge_119) (C := RX10) (T := TX10) (N := 36) hx hb hts in10 hown hK (va_one at_177) 0 rfl rfl 27 (by decide) (hts (.fieldLink RX10 109 "RiverModelModel" "end" "I") (List.mem_of_getElem? (i := 11) rfl)) (fun _ h9 => h9) rfl dX10_swap_119 ?_
                refine lv_aload_n hx hb dX10_swap_122 rfl (lv_at hl 3 rfl) ?_
                refine va_get (D := D) (ci := 9) (v := .int gC) (C := RX10) (T := TX10) (N := 36) hx hb hts in10 hown hK (va_one at_177) 0 rfl rfl 0 (by decide) (hts (.fieldLink RX10 89 "RiverModelModel" "length" "I") (List.mem_of_getElem? (i := 12) rfl)) (fun _ h9 => h9) rfl dX10_swap_123 ?_
                refine lv_icmp_ne (tgt := 183) hx hb dX10_swap_126 (by decide) (fun c_178 => ?_) (fun c_178 => ?_)
                · skip
                  have c_178 : ge_119.toInt ≠ gC.toInt := q_ne c_178
                  refine lv_pc (pc2 := 183) rfl ?_
                  refine lv_bipush (v := (-2)) hx hb dX10_swap_183 (by decide) ?_
                  have zi_m2 : ((-2) : Int32).toInt = (-2) := by decide
                  exact tx_iret (z := (ge_119, gk_120, gf_121, gs_122, gg_123, RN_124, K, F, S, N, gS)) hx hb hr hlk hG hS ⟨(show okM K F S N 0 gI.toInt from hO0), (show swM gS K F S N gI.toInt from hW)⟩ dX10_swap_185
                · skip
                  have c_178 : ge_119.toInt = gC.toInt := q_eq c_178
                  refine lv_aload_n hx hb dX10_swap_129 rfl (lv_at hl 3 rfl) ?_
                  refine va_get (D := D) (ci := 9) (v := .int gk_120) (C := RX10) (T := TX10) (N := 36) hx hb hts in10 hown hK (va_one at_177) 0 rfl rfl 28 (by decide) (hts (.fieldLink RX10 125 "RiverModelModel" "readKind" "I") (List.mem_of_getElem? (i := 13) rfl)) (fun _ h9 => h9) rfl dX10_swap_130 ?_
                  refine lv_bipush (v := 115) hx hb dX10_swap_133 (by decide) ?_
                  refine lv_icmp_ne (tgt := 142) hx hb dX10_swap_135 (by decide) (fun c_179 => ?_) (fun c_179 => ?_)
                  · skip
                    have c_179 : gk_120.toInt ≠ 115 := q_ne c_179
                    refine lv_iconst (v := 0) hx hb dX10_swap_142 (by decide) ?_
                    refine lv_iload_n hx hb dX10_swap_143 rfl (lv_at hl 1 rfl) ?_
                    refine lv_pc (pc2 := 144) rfl ?_
                    refine lv_icmp_ne (tgt := 183) hx hb dX10_swap_144 (by decide) (fun q => absurd rfl q) (fun _ => ?_)
                    refine lv_aload_n hx hb dX10_swap_147 rfl (lv_at hl 3 rfl) ?_
                    refine va_get (D := D) (ci := 9) (v := .int gk_120) (C := RX10) (T := TX10) (N := 36) hx hb hts in10 hown hK (va_one at_177) 0 rfl rfl 28 (by decide) (hts (.fieldLink RX10 125 "RiverModelModel" "readKind" "I") (List.mem_of_getElem? (i := 13) rfl)) (fun _ h9 => h9) rfl dX10_swap_148 ?_
                    refine lv_bipush (v := 103) hx hb dX10_swap_151 (by decide) ?_
                    refine lv_icmp_ne (tgt := 160) hx hb dX10_swap_153 (by decide) (fun c_180 => ?_) (fun c_180 => ?_)
                    · skip
                      have c_180 : gk_120.toInt ≠ 103 := q_ne c_180
                      refine lv_iconst (v := 0) hx hb dX10_swap_160 (by decide) ?_
                      refine lv_iload hx hb dX10_swap_161 (lv_at hl 0 rfl) ?_
                      refine lv_icmp_ne (tgt := 183) hx hb dX10_swap_163 (by decide) (fun c_181 => ?_) (fun c_181 => ?_)
                      · skip
                        have c_181 : 0 ≠ vj114.toInt := q_ne c_181
                        refine lv_pc (pc2 := 183) rfl ?_
                        refine lv_bipush (v := (-2)) hx hb dX10_swap_183 (by decide) ?_
                        have zi_m2 : ((-2) : Int32).toInt = (-2) := by decide
                        exact tx_iret (z := (ge_119, gk_120, gf_121, gs_122, gg_123, RN_124, K, F, S, N, gS)) hx hb hr hlk hG hS ⟨(show okM K F S N 0 gI.toInt from hO0), (show swM gS K F S N gI.toInt from hW)⟩ dX10_swap_185
                      · skip
                        have c_181 : 0 = vj114.toInt := q_eq c_181
                        refine lv_iload_n hx hb dX10_swap_166 rfl (lv_at hl 1 rfl) ?_
                        refine lv_if_eq (tgt := 186) hx hb dX10_swap_167 (by decide) (fun _ => ?_) (fun q => absurd (by decide) q)
                        refine lv_aload_n hx hb dX10_swap_186 rfl (lv_at hl 3 rfl) ?_
                        refine lv_iconst (v := 2) hx hb dX10_swap_187 (by decide) ?_
                        refine lv_iconst (v := 0) hx hb dX10_swap_188 (by decide) ?_
                        have zi_2 : (2 : Int32).toInt = 2 := by decide
                        refine tx_callv (W.runV (As := [.int 2, .int 0]) (rest := []) ⟨hx, hb, hml, hown, hts⟩ (m_X10_copies l D t cI cL cC gC gE gW gA gT gI gS gM K F S N gH gJ ge_119 gk_120 gf_121 gs_122 gg_123 gr RN_124 a0 2 0 80 0 240 0 uq (by omega) (by omega) (by omega) (by omega) (by omega) (by omega) (by omega) (by omega) (by omega) k_a0) (cwV 2 hts gu_X10_swap_X10_copies_170 rfl rfl rfl (by decide +kernel) ⟨Nat.le_of_ble_eq_true rfl, Nat.le_of_ble_eq_true rfl⟩) (tP_V hG hE at_177 rfl) rfl rfl hl.1 rfl (lv_room (Nat.le_of_ble_eq_true rfl)) dX10_swap_189 ⟨Nat.le_of_ble_eq_true rfl, Nat.le_of_ble_eq_true rfl⟩) hS (wrL_sub (by decide)) (fun zz_185 H locs hp_183 hG hS o_184 => ?_)
                        obtain ⟨K_186, F_187, S_188, N_189⟩ := zz_185
                        have at_177 := va_at.keptC at_177 o_184 k_a0 rfl
                        replace hG : tG D (mF cI cL cC gC gE gW gA gT gI gS gM K_186 F_187 S_188 N_189 gH gJ ge_119 gk_120 gf_121 gs_122 gg_123 gr RN_124) t H := hG
                        have hp_183 : cpd K K_186 80 0 40 ∧ cpd F F_187 80 0 40 ∧ cpd S S_188 80 0 40 ∧ cpd N N_189 240 0 120 := hp_183
                        obtain ⟨p_190, p_191, p_192, p_193⟩ := hp_183
                        refine lv_pc (pc2 := 192) rfl ?_
                        refine lv_aload_n hx hb dX10_swap_192 rfl (lv_at hl 3 rfl) ?_
                        refine lv_iconst (v := 2) hx hb dX10_swap_193 (by decide) ?_
                        refine lv_iload_n hx hb dX10_swap_194 rfl (lv_at hl 4 rfl) ?_
                        refine tx_callv (W.runV (As := [.int 2, .int a1]) (rest := []) ⟨hx, hb, hml, hown, hts⟩ (m_X10_lays l D t cI cL cC gC gE gW gA gT gI gS gM K_186 F_187 S_188 N_189 gH gJ ge_119 gk_120 gf_121 gs_122 gg_123 gr RN_124 a0 2 a1 80 uq (by omega) (by omega) (by omega) (by omega) (by omega) k_a0) (cwV 2 hts gu_X10_swap_X10_lays_155 rfl rfl rfl (by decide +kernel) ⟨Nat.le_of_ble_eq_true rfl, Nat.le_of_ble_eq_true rfl⟩) (tP_V hG hE at_177 rfl) rfl rfl hl.1 rfl (lv_room (Nat.le_of_ble_eq_true rfl)) dX10_swap_195 ⟨Nat.le_of_ble_eq_true rfl, Nat.le_of_ble_eq_true rfl⟩) hS (wrL_sub (by decide)) (fun zz_197 H locs hp_195 hG hS o_196 => ?_)
                        obtain ⟨K_198, F_199, S_200, N_201⟩ := zz_197
                        have at_177 := va_at.keptC at_177 o_196 k_a0 rfl
                        replace hG : tG D (mF cI cL cC gC gE gW gA gT gI gS gM K_198 F_199 S_200 N_201 gH gJ ge_119 gk_120 gf_121 gs_122 gg_123 gr RN_124) t H := hG
                        have hp_195 : K_198 = upd K_186 (80 + a1.toInt).toNat gk_120 ∧ F_199 = upd F_187 (80 + a1.toInt).toNat gf_121 ∧ S_200 = upd S_188 (80 + a1.toInt).toNat gs_122 ∧ N_201 = upd (upd (upd N_189 (3 * (80 + a1.toInt)).toNat (RN_124 0)) (3 * (80 + a1.toInt) + 1).toNat (RN_124 1)) (3 * (80 + a1.toInt) + 2).toNat (RN_124 2) := hp_195
                        obtain ⟨p_202, p_203, p_204, p_205⟩ := hp_195
                        have ok2 : okM K_186 F_187 S_188 N_189 80 gI.toInt := okM.cpy (a := 80) (b := 0) (by decide) (by decide) (by omega) p_190 p_191 p_192 p_193 hO0
                        have c2 := p_190.1 a1.toInt (by omega) (by omega)
                        have c3 := p_191.1 a1.toInt (by omega) (by omega)
                        have hi7 : gk_120.toInt = 111 → hasS K_186 F_187 80 gI.toInt gf_121 := fun q => hasS.cp (b := 0) (fun j h0 h1 => p_190.1 j h0 (by omega)) (fun j h0 h1 => p_191.1 j h0 (by omega)) ((v59_2 _ p_127.1 p_127.2.1 (p_128 (by omega))).mono (by omega))
                        have ok3 : okM K_198 F_199 S_200 N_201 80 gI.toInt := okM.swp (b := 80) (i := a1.toInt) (by decide) (by omega) p_202 p_203 p_204 p_205 ok2 (fun q => by rw [c2] at q; rw [c3]; exact ⟨by omega, Int32.toInt_inj.mp (by omega)⟩) p_127 hi7
                        have kp0 : kpO K K_198 80 40 := kpO.upd p_190.2 (by decide) (i := 80 + a1.toInt) (by omega) p_202
                        have kp1 : kpO F F_199 80 40 := kpO.upd p_191.2 (by decide) (i := 80 + a1.toInt) (by omega) p_203
                        have kp2 : kpO S S_200 80 40 := kpO.upd p_192.2 (by decide) (i := 80 + a1.toInt) (by omega) p_204
                        have kp3 : kpO N N_201 240 120 := kpO.upd (kpO.upd (kpO.upd p_193.2 (by decide) (i := 3 * (80 + a1.toInt)) (by omega) rfl) (by decide) (i := 3 * (80 + a1.toInt) + 1) (by omega) rfl) (by decide) (i := 3 * (80 + a1.toInt) + 2) (by omega) p_205
                        have ok0 : okM K_198 F_199 S_200 N_201 0 gI.toInt := okM.kpg (a := 80) (a3 := 240) (by decide) (by decide) (by omega) kp0 kp1 kp2 kp3 hO0
                        refine lv_aload_n hx hb dX10_swap_198 rfl (lv_at hl 3 rfl) ?_
                        refine lv_iconst (v := 1) hx hb dX10_swap_199 (by decide) ?_
                        have zi_1 : (1 : Int32).toInt = 1 := by decide
                        refine ty_put (D := D) (ci := 9) (v := .int 1) (ty := .boolean) (C := RX10) (T := TX10) (N := 36) (F2 := (mF cI cL cC gC gE gW gA gT gI 1 gM K_198 F_199 S_200 N_201 gH gJ ge_119 gk_120 gf_121 gs_122 gg_123 gr RN_124)) hx hb hts in10 tyX10 tyX10_ok nmX10 hown hK hG hS at_177 (by rw [k_a0]; rfl) rfl 8 (by decide) (hts (.fieldLink RX10 177 "RiverModelModel" "isSwapped" "Z") (List.mem_of_getElem? (i := 20) rfl)) (fun _ h9 => h9) rfl (by decide +kernel) (by decide) (by decide) (Nat.le_of_ble_eq_true rfl) (by rw [k_a0]; exact ⟨r_129, v_131, r_132, r_134, r_136, r_138, r_140, r_142, r_144, r_146, r_148, r_150, r_152, r_154, r_156, r_158, r_160, r_162, r_164, r_166, r_168, r_170, r_172, v_174, r_175, rfl, h_130, h_133, h_135, h_137, h_139, h_141, h_143, h_145, h_147, h_149, h_151, h_153, h_155, h_157, h_159, h_161, h_163, h_165, h_167, h_169, h_171, h_173, h_176⟩) (fun hG b hb h0 => by obtain ⟨e, g1, g2⟩ := hG b h0; exact ⟨e, g1, mF_gS (fun h => hb (uq b a0 (h.trans k_a0.symm) h0)) g2⟩) dX10_swap_200 (fun H locs hG hS at_206 o_207 => ?_)
                        have at_206 : va_at D vwCl (a0, .inr (9, [.int gC, .ref r_129, .int v_131, .int gI, .ref r_132, .ref r_134, .ref r_136, .ref r_138, .int 1, .ref r_140, .ref r_142, .ref r_144, .ref r_146, .int gM, .ref r_148, .ref r_150, .ref r_152, .int gE, .ref r_154, .ref r_156, .ref r_158, .ref r_160, .ref r_162, .ref r_164, .ref r_166, .ref r_168, .ref r_170, .int ge_119, .int gk_120, .int gf_121, .int gs_122, .int gg_123, .ref r_172, .int gr, .int v_174, .ref r_175])) H := at_206
                        refine lv_iconst (v := 0) hx hb dX10_swap_203 (by decide) ?_
                        refine lv_pc (pc2 := 204) rfl ?_
                        exact tx_iret (z := (ge_119, gk_120, gf_121, gs_122, gg_123, RN_124, K_198, F_199, S_200, N_201, 1)) hx hb hr hlk hG hS ⟨(show okM K_198 F_199 S_200 N_201 0 gI.toInt from ok0), (show swM (1 : Int32) K_198 F_199 S_200 N_201 gI.toInt from (Or.inr ok3))⟩ dX10_swap_204
                    · skip
                      have c_180 : gk_120.toInt = 103 := q_eq c_180
                      refine lv_iconst (v := 1) hx hb dX10_swap_156 (by decide) ?_
                      refine lv_goto (tgt := 161) hx hb dX10_swap_157 (by decide) ?_
                      refine lv_iload hx hb dX10_swap_161 (lv_at hl 0 rfl) ?_
                      refine lv_icmp_ne (tgt := 183) hx hb dX10_swap_163 (by decide) (fun c_208 => ?_) (fun c_208 => ?_)
                      · skip
                        have c_208 : 1 ≠ vj114.toInt := q_ne c_208
                        refine lv_bipush (v := (-2)) hx hb dX10_swap_183 (by decide) ?_
                        have zi_m2 : ((-2) : Int32).toInt = (-2) := by decide
                        exact tx_iret (z := (ge_119, gk_120, gf_121, gs_122, gg_123, RN_124, K, F, S, N, gS)) hx hb hr hlk hG hS ⟨(show okM K F S N 0 gI.toInt from hO0), (show swM gS K F S N gI.toInt from hW)⟩ dX10_swap_185
                      · skip
                        have c_208 : 1 = vj114.toInt := q_eq c_208
                        refine lv_iload_n hx hb dX10_swap_166 rfl (lv_at hl 1 rfl) ?_
                        refine lv_pc (pc2 := 167) rfl ?_
                        refine lv_if_eq (tgt := 186) hx hb dX10_swap_167 (by decide) (fun _ => ?_) (fun q => absurd (by decide) q)
                        refine lv_aload_n hx hb dX10_swap_186 rfl (lv_at hl 3 rfl) ?_
                        refine lv_iconst (v := 2) hx hb dX10_swap_187 (by decide) ?_
                        refine lv_iconst (v := 0) hx hb dX10_swap_188 (by decide) ?_
                        have zi_2 : (2 : Int32).toInt = 2 := by decide
                        refine tx_callv (W.runV (As := [.int 2, .int 0]) (rest := []) ⟨hx, hb, hml, hown, hts⟩ (m_X10_copies l D t cI cL cC gC gE gW gA gT gI gS gM K F S N gH gJ ge_119 gk_120 gf_121 gs_122 gg_123 gr RN_124 a0 2 0 80 0 240 0 uq (by omega) (by omega) (by omega) (by omega) (by omega) (by omega) (by omega) (by omega) (by omega) k_a0) (cwV 2 hts gu_X10_swap_X10_copies_170 rfl rfl rfl (by decide +kernel) ⟨Nat.le_of_ble_eq_true rfl, Nat.le_of_ble_eq_true rfl⟩) (tP_V hG hE at_177 rfl) rfl rfl hl.1 rfl (lv_room (Nat.le_of_ble_eq_true rfl)) dX10_swap_189 ⟨Nat.le_of_ble_eq_true rfl, Nat.le_of_ble_eq_true rfl⟩) hS (wrL_sub (by decide)) (fun zz_212 H locs hp_210 hG hS o_211 => ?_)
                        obtain ⟨K_213, F_214, S_215, N_216⟩ := zz_212
                        have at_177 := va_at.keptC at_177 o_211 k_a0 rfl
                        replace hG : tG D (mF cI cL cC gC gE gW gA gT gI gS gM K_213 F_214 S_215 N_216 gH gJ ge_119 gk_120 gf_121 gs_122 gg_123 gr RN_124) t H := hG
                        have hp_210 : cpd K K_213 80 0 40 ∧ cpd F F_214 80 0 40 ∧ cpd S S_215 80 0 40 ∧ cpd N N_216 240 0 120 := hp_210
                        obtain ⟨p_217, p_218, p_219, p_220⟩ := hp_210
                        refine lv_aload_n hx hb dX10_swap_192 rfl (lv_at hl 3 rfl) ?_
                        refine lv_iconst (v := 2) hx hb dX10_swap_193 (by decide) ?_
                        refine lv_iload_n hx hb dX10_swap_194 rfl (lv_at hl 4 rfl) ?_
                        refine lv_pc (pc2 := 195) rfl ?_
                        refine tx_callv (W.runV (As := [.int 2, .int a1]) (rest := []) ⟨hx, hb, hml, hown, hts⟩ (m_X10_lays l D t cI cL cC gC gE gW gA gT gI gS gM K_213 F_214 S_215 N_216 gH gJ ge_119 gk_120 gf_121 gs_122 gg_123 gr RN_124 a0 2 a1 80 uq (by omega) (by omega) (by omega) (by omega) (by omega) k_a0) (cwV 2 hts gu_X10_swap_X10_lays_155 rfl rfl rfl (by decide +kernel) ⟨Nat.le_of_ble_eq_true rfl, Nat.le_of_ble_eq_true rfl⟩) (tP_V hG hE at_177 rfl) rfl rfl hl.1 rfl (lv_room (Nat.le_of_ble_eq_true rfl)) dX10_swap_195 ⟨Nat.le_of_ble_eq_true rfl, Nat.le_of_ble_eq_true rfl⟩) hS (wrL_sub (by decide)) (fun zz_224 H locs hp_222 hG hS o_223 => ?_)
                        obtain ⟨K_225, F_226, S_227, N_228⟩ := zz_224
                        have at_177 := va_at.keptC at_177 o_223 k_a0 rfl
                        replace hG : tG D (mF cI cL cC gC gE gW gA gT gI gS gM K_225 F_226 S_227 N_228 gH gJ ge_119 gk_120 gf_121 gs_122 gg_123 gr RN_124) t H := hG
                        have hp_222 : K_225 = upd K_213 (80 + a1.toInt).toNat gk_120 ∧ F_226 = upd F_214 (80 + a1.toInt).toNat gf_121 ∧ S_227 = upd S_215 (80 + a1.toInt).toNat gs_122 ∧ N_228 = upd (upd (upd N_216 (3 * (80 + a1.toInt)).toNat (RN_124 0)) (3 * (80 + a1.toInt) + 1).toNat (RN_124 1)) (3 * (80 + a1.toInt) + 2).toNat (RN_124 2) := hp_222
                        obtain ⟨p_229, p_230, p_231, p_232⟩ := hp_222
                        have ok2 : okM K_213 F_214 S_215 N_216 80 gI.toInt := okM.cpy (a := 80) (b := 0) (by decide) (by decide) (by omega) p_217 p_218 p_219 p_220 hO0
                        have c2 := p_217.1 a1.toInt (by omega) (by omega)
                        have c3 := p_218.1 a1.toInt (by omega) (by omega)
                        have hi7 : gk_120.toInt = 111 → hasS K_213 F_214 80 gI.toInt gf_121 := fun q => hasS.cp (b := 0) (fun j h0 h1 => p_217.1 j h0 (by omega)) (fun j h0 h1 => p_218.1 j h0 (by omega)) ((v59_2 _ p_127.1 p_127.2.1 (p_128 (by omega))).mono (by omega))
                        have ok3 : okM K_225 F_226 S_227 N_228 80 gI.toInt := okM.swp (b := 80) (i := a1.toInt) (by decide) (by omega) p_229 p_230 p_231 p_232 ok2 (fun q => by rw [c2] at q; rw [c3]; exact ⟨by omega, Int32.toInt_inj.mp (by omega)⟩) p_127 hi7
                        have kp0 : kpO K K_225 80 40 := kpO.upd p_217.2 (by decide) (i := 80 + a1.toInt) (by omega) p_229
                        have kp1 : kpO F F_226 80 40 := kpO.upd p_218.2 (by decide) (i := 80 + a1.toInt) (by omega) p_230
                        have kp2 : kpO S S_227 80 40 := kpO.upd p_219.2 (by decide) (i := 80 + a1.toInt) (by omega) p_231
                        have kp3 : kpO N N_228 240 120 := kpO.upd (kpO.upd (kpO.upd p_220.2 (by decide) (i := 3 * (80 + a1.toInt)) (by omega) rfl) (by decide) (i := 3 * (80 + a1.toInt) + 1) (by omega) rfl) (by decide) (i := 3 * (80 + a1.toInt) + 2) (by omega) p_232
                        have ok0 : okM K_225 F_226 S_227 N_228 0 gI.toInt := okM.kpg (a := 80) (a3 := 240) (by decide) (by decide) (by omega) kp0 kp1 kp2 kp3 hO0
                        refine lv_aload_n hx hb dX10_swap_198 rfl (lv_at hl 3 rfl) ?_
                        refine lv_iconst (v := 1) hx hb dX10_swap_199 (by decide) ?_
                        have zi_1 : (1 : Int32).toInt = 1 := by decide
                        refine ty_put (D := D) (ci := 9) (v := .int 1) (ty := .boolean) (C := RX10) (T := TX10) (N := 36) (F2 := (mF cI cL cC gC gE gW gA gT gI 1 gM K_225 F_226 S_227 N_228 gH gJ ge_119 gk_120 gf_121 gs_122 gg_123 gr RN_124)) hx hb hts in10 tyX10 tyX10_ok nmX10 hown hK hG hS at_177 (by rw [k_a0]; rfl) rfl 8 (by decide) (hts (.fieldLink RX10 177 "RiverModelModel" "isSwapped" "Z") (List.mem_of_getElem? (i := 20) rfl)) (fun _ h9 => h9) rfl (by decide +kernel) (by decide) (by decide) (Nat.le_of_ble_eq_true rfl) (by rw [k_a0]; exact ⟨r_129, v_131, r_132, r_134, r_136, r_138, r_140, r_142, r_144, r_146, r_148, r_150, r_152, r_154, r_156, r_158, r_160, r_162, r_164, r_166, r_168, r_170, r_172, v_174, r_175, rfl, h_130, h_133, h_135, h_137, h_139, h_141, h_143, h_145, h_147, h_149, h_151, h_153, h_155, h_157, h_159, h_161, h_163, h_165, h_167, h_169, h_171, h_173, h_176⟩) (fun hG b hb h0 => by obtain ⟨e, g1, g2⟩ := hG b h0; exact ⟨e, g1, mF_gS (fun h => hb (uq b a0 (h.trans k_a0.symm) h0)) g2⟩) dX10_swap_200 (fun H locs hG hS at_233 o_234 => ?_)
                        have at_233 : va_at D vwCl (a0, .inr (9, [.int gC, .ref r_129, .int v_131, .int gI, .ref r_132, .ref r_134, .ref r_136, .ref r_138, .int 1, .ref r_140, .ref r_142, .ref r_144, .ref r_146, .int gM, .ref r_148, .ref r_150, .ref r_152, .int gE, .ref r_154, .ref r_156, .ref r_158, .ref r_160, .ref r_162, .ref r_164, .ref r_166, .ref r_168, .ref r_170, .int ge_119, .int gk_120, .int gf_121, .int gs_122, .int gg_123, .ref r_172, .int gr, .int v_174, .ref r_175])) H := at_233
                        refine lv_iconst (v := 0) hx hb dX10_swap_203 (by decide) ?_
                        exact tx_iret (z := (ge_119, gk_120, gf_121, gs_122, gg_123, RN_124, K_225, F_226, S_227, N_228, 1)) hx hb hr hlk hG hS ⟨(show okM K_225 F_226 S_227 N_228 0 gI.toInt from ok0), (show swM (1 : Int32) K_225 F_226 S_227 N_228 gI.toInt from (Or.inr ok3))⟩ dX10_swap_204
                  · skip
                    have c_179 : gk_120.toInt = 115 := q_eq c_179
                    refine lv_iconst (v := 1) hx hb dX10_swap_138 (by decide) ?_
                    refine lv_goto (tgt := 143) hx hb dX10_swap_139 (by decide) ?_
                    refine lv_pc (pc2 := 143) rfl ?_
                    refine lv_iload_n hx hb dX10_swap_143 rfl (lv_at hl 1 rfl) ?_
                    refine lv_icmp_ne (tgt := 183) hx hb dX10_swap_144 (by decide) (fun _ => ?_) (fun q => absurd q (by decide))
                    refine lv_bipush (v := (-2)) hx hb dX10_swap_183 (by decide) ?_
                    have zi_m2 : ((-2) : Int32).toInt = (-2) := by decide
                    exact tx_iret (z := (ge_119, gk_120, gf_121, gs_122, gg_123, RN_124, K, F, S, N, gS)) hx hb hr hlk hG hS ⟨(show okM K F S N 0 gI.toInt from hO0), (show swM gS K F S N gI.toInt from hW)⟩ dX10_swap_185
              · skip
                refine lv_if_eq (tgt := 183) hx hb dX10_swap_115 (by decide) (fun _ => ?_) (fun q => absurd (by decide) q)
                refine lv_bipush (v := (-2)) hx hb dX10_swap_183 (by decide) ?_
                have zi_m2 : ((-2) : Int32).toInt = (-2) := by decide
                exact tx_iret (z := (ge_119, gk_120, gf_121, gs_122, gg_123, RN_124, K, F, S, N, gS)) hx hb hr hlk hG hS ⟨(show okM K F S N 0 gI.toInt from hO0), (show swM gS K F S N gI.toInt from hW)⟩ dX10_swap_185
            refine (hWW114 _ _ _).mpr ?_
            refine lv_aload_n hx hb dX10_swap_90 rfl (lv_at hl 2 rfl) ?_
            refine lv_pc (pc2 := 91) rfl ?_
            refine va_get (D := D) (ci := 9) (v := .ref r_63) (C := RX10) (T := TX10) (N := 36) hx hb hts in10 hown hK (va_one at_108) 0 rfl rfl 4 (by decide) (hts (.fieldLink RX10 13 "RiverModelModel" "kind" "[I") (List.mem_of_getElem? (i := 7) rfl)) (fun _ h9 => h9) rfl dX10_swap_91 ?_
            refine lv_iload_n hx hb dX10_swap_94 rfl (lv_at hl 3 rfl) ?_
            have b_235 : vp_in a1 120 := (q_in (by omega) (by omega))
            refine va_iald hx hb hK (va_one at_109) 0 0 rfl rfl b_235 dX10_swap_95 ?_
            refine lv_seti (y := x_111) e_112.symm ?_
            refine lv_bipush (v := 103) hx hb dX10_swap_96 (by decide) ?_
            refine lv_icmp_ne (tgt := 105) hx hb dX10_swap_98 (by decide) (fun c_236 => ?_) (fun c_236 => ?_)
            · skip
              have c_236 : x_111.toInt ≠ 103 := q_ne c_236
              refine lv_iconst (v := 0) hx hb dX10_swap_105 (by decide) ?_
              have zi_0 : (0 : Int32).toInt = 0 := by decide
              exact (hWW114 _ _ _).mp (jn114 0 (by omega) (by omega))
            · skip
              have c_236 : x_111.toInt = 103 := q_eq c_236
              refine lv_iconst (v := 1) hx hb dX10_swap_101 (by decide) ?_
              refine lv_goto (tgt := 106) hx hb dX10_swap_102 (by decide) ?_
              have zi_1 : (1 : Int32).toInt = 1 := by decide
              exact (hWW114 _ _ _).mp (jn114 1 (by omega) (by omega))
          · skip
            have c_113 : x_111.toInt = 115 := q_eq c_113
            refine lv_pc (pc2 := 84) rfl ?_
            refine lv_iconst (v := 1) hx hb dX10_swap_84 (by decide) ?_
            refine lv_goto (tgt := 89) hx hb dX10_swap_85 (by decide) ?_
            refine lv_istore_n (lv' := [(3, .int 1), (2, .int yn), (0, .ref a0), (1, .int a1)]) hx hb dX10_swap_89 rfl hl (by decide) rfl (fun ls hl => ?_)
            refine lv_pc (pc2 := 90) rfl ?_
            refine lp_gen (fun WW237 hWW237 => ?_)
            have jn237 : ∀ (vj237 : Int32), (0 ≤ vj237.toInt) → (vj237.toInt ≤ 1) → WW237 H locs (F0 m 106 ls (.int vj237 :: [])) := by
              intro vj237 fj237_0 fj237_1
              refine (hWW237 _ _ _).mpr ?_
              refine lv_istore (lv' := [(4, .int vj237), (3, .int 1), (2, .int yn), (0, .ref a0), (1, .int a1)]) hx hb dX10_swap_106 hl (by decide) rfl (fun ls hl => ?_)
              refine lv_aload_n hx hb dX10_swap_108 rfl (lv_at hl 3 rfl) ?_
              refine lv_iconst (v := 0) hx hb dX10_swap_109 (by decide) ?_
              refine lv_iload_n hx hb dX10_swap_110 rfl (lv_at hl 2 rfl) ?_
              refine lv_iconst (v := 0) hx hb dX10_swap_111 (by decide) ?_
              refine lv_pc (pc2 := 112) rfl ?_
              have zi_0 : (0 : Int32).toInt = 0 := by decide
              refine tx_calli (W.runV (As := [.int 0, .int yn, .int 0]) (rest := []) ⟨hx, hb, hml, hown, hts⟩ (m_X10_readsItem l D t cI cL cC gC gE gW gA gT gI gS gM K F S N gH gJ ge gk gf gs gg gr RN a0 0 yn 0  uq (by omega) (by omega) (by omega) (by omega) k_a0) (cwV 3 hts gu_X10_swap_X10_readsItem_151 rfl rfl rfl (by decide +kernel) ⟨Nat.le_of_ble_eq_true rfl, Nat.le_of_ble_eq_true rfl⟩) (tP_V hG hE at_108 rfl) rfl rfl hl.1 rfl (lv_room (Nat.le_of_ble_eq_true rfl)) dX10_swap_112 ⟨Nat.le_of_ble_eq_true rfl, Nat.le_of_ble_eq_true rfl⟩) hS (wrL_sub (by decide)) (fun r_238 zz_241 H locs hp_239 hG hS o_240 => ?_)
              obtain ⟨ge_242, gk_243, gf_244, gs_245, gg_246, RN_247⟩ := zz_241
              have at_109 := va_at.keptC at_109 o_240 h_64 rfl
              replace hG : tG D (mF cI cL cC gC gE gW gA gT gI gS gM K F S N gH gJ ge_242 gk_243 gf_244 gs_245 gg_246 gr RN_247) t H := hG
              have hp_239 : (r_238 = 1 ∧ (0 : Int32).toInt < ge_242.toInt ∧ ge_242.toInt ≤ (0 : Int32).toInt + 40 ∧ itOk gk_243 gf_244 gs_245 (RN_247 0) (RN_247 1) ∧ nmOk gk_243 gf_244 yn) ∨ (r_238 = 0) := hp_239
              rcases hp_239 with ⟨rfl, p_248, p_249, p_250, p_251⟩ | rfl
              · skip
                refine lv_if_eq (tgt := 183) hx hb dX10_swap_115 (by decide) (fun q => absurd q (by decide)) (fun _ => ?_)
                refine lv_aload_n hx hb dX10_swap_118 rfl (lv_at hl 3 rfl) ?_
                obtain ⟨r_252, v_254, r_255, r_257, r_259, r_261, r_263, r_265, r_267, r_269, r_271, r_273, r_275, r_277, r_279, r_281, r_283, r_285, r_287, r_289, r_291, r_293, r_295, v_297, r_298, at_300, h_253, h_256, h_258, h_260, h_262, h_264, h_266, h_268, h_270, h_272, h_274, h_276, h_278, h_280, h_282, h_284, h_286, h_288, h_290, h_292, h_294, h_296, h_299⟩ := mF_o40 hG k_a0
                refine va_get (D := D) (ci := 9) (v := .int ge_242) (C := RX10) (T := TX10) (N := 36) hx hb hts in10 hown hK (va_one at_300) 0 rfl rfl 27 (by decide) (hts (.fieldLink RX10 109 "RiverModelModel" "end" "I") (List.mem_of_getElem? (i := 11) rfl)) (fun _ h9 => h9) rfl dX10_swap_119 ?_
                refine lv_aload_n hx hb dX10_swap_122 rfl (lv_at hl 3 rfl) ?_
                refine va_get (D := D) (ci := 9) (v := .int gC) (C := RX10) (T := TX10) (N := 36) hx hb hts in10 hown hK (va_one at_300) 0 rfl rfl 0 (by decide) (hts (.fieldLink RX10 89 "RiverModelModel" "length" "I") (List.mem_of_getElem? (i := 12) rfl)) (fun _ h9 => h9) rfl dX10_swap_123 ?_
                refine lv_icmp_ne (tgt := 183) hx hb dX10_swap_126 (by decide) (fun c_301 => ?_) (fun c_301 => ?_)
                · skip
                  have c_301 : ge_242.toInt ≠ gC.toInt := q_ne c_301
                  refine lv_bipush (v := (-2)) hx hb dX10_swap_183 (by decide) ?_
                  refine lv_pc (pc2 := 185) rfl ?_
                  have zi_m2 : ((-2) : Int32).toInt = (-2) := by decide
                  exact tx_iret (z := (ge_242, gk_243, gf_244, gs_245, gg_246, RN_247, K, F, S, N, gS)) hx hb hr hlk hG hS ⟨(show okM K F S N 0 gI.toInt from hO0), (show swM gS K F S N gI.toInt from hW)⟩ dX10_swap_185
                · skip
                  have c_301 : ge_242.toInt = gC.toInt := q_eq c_301
                  refine lv_aload_n hx hb dX10_swap_129 rfl (lv_at hl 3 rfl) ?_
                  refine va_get (D := D) (ci := 9) (v := .int gk_243) (C := RX10) (T := TX10) (N := 36) hx hb hts in10 hown hK (va_one at_300) 0 rfl rfl 28 (by decide) (hts (.fieldLink RX10 125 "RiverModelModel" "readKind" "I") (List.mem_of_getElem? (i := 13) rfl)) (fun _ h9 => h9) rfl dX10_swap_130 ?_
                  refine lv_bipush (v := 115) hx hb dX10_swap_133 (by decide) ?_
                  refine lv_icmp_ne (tgt := 142) hx hb dX10_swap_135 (by decide) (fun c_302 => ?_) (fun c_302 => ?_)
                  · skip
                    have c_302 : gk_243.toInt ≠ 115 := q_ne c_302
                    refine lv_iconst (v := 0) hx hb dX10_swap_142 (by decide) ?_
                    refine lv_iload_n hx hb dX10_swap_143 rfl (lv_at hl 1 rfl) ?_
                    refine lv_icmp_ne (tgt := 183) hx hb dX10_swap_144 (by decide) (fun _ => ?_) (fun q => absurd q (by decide))
                    refine lv_pc (pc2 := 183) rfl ?_
                    refine lv_bipush (v := (-2)) hx hb dX10_swap_183 (by decide) ?_
                    have zi_m2 : ((-2) : Int32).toInt = (-2) := by decide
                    exact tx_iret (z := (ge_242, gk_243, gf_244, gs_245, gg_246, RN_247, K, F, S, N, gS)) hx hb hr hlk hG hS ⟨(show okM K F S N 0 gI.toInt from hO0), (show swM gS K F S N gI.toInt from hW)⟩ dX10_swap_185
                  · skip
                    have c_302 : gk_243.toInt = 115 := q_eq c_302
                    refine lv_iconst (v := 1) hx hb dX10_swap_138 (by decide) ?_
                    refine lv_goto (tgt := 143) hx hb dX10_swap_139 (by decide) ?_
                    refine lv_iload_n hx hb dX10_swap_143 rfl (lv_at hl 1 rfl) ?_
                    refine lv_icmp_ne (tgt := 183) hx hb dX10_swap_144 (by decide) (fun q => absurd rfl q) (fun _ => ?_)
                    refine lv_aload_n hx hb dX10_swap_147 rfl (lv_at hl 3 rfl) ?_
                    refine va_get (D := D) (ci := 9) (v := .int gk_243) (C := RX10) (T := TX10) (N := 36) hx hb hts in10 hown hK (va_one at_300) 0 rfl rfl 28 (by decide) (hts (.fieldLink RX10 125 "RiverModelModel" "readKind" "I") (List.mem_of_getElem? (i := 13) rfl)) (fun _ h9 => h9) rfl dX10_swap_148 ?_
                    refine lv_pc (pc2 := 151) rfl ?_
                    refine lv_bipush (v := 103) hx hb dX10_swap_151 (by decide) ?_
                    refine lv_icmp_ne (tgt := 160) hx hb dX10_swap_153 (by decide) (fun c_303 => ?_) (fun c_303 => ?_)
                    · skip
                      have c_303 : gk_243.toInt ≠ 103 := q_ne c_303
                      refine lv_iconst (v := 0) hx hb dX10_swap_160 (by decide) ?_
                      refine lv_iload hx hb dX10_swap_161 (lv_at hl 0 rfl) ?_
                      refine lv_icmp_ne (tgt := 183) hx hb dX10_swap_163 (by decide) (fun c_304 => ?_) (fun c_304 => ?_)
                      · skip
                        have c_304 : 0 ≠ vj237.toInt := q_ne c_304
                        refine lv_bipush (v := (-2)) hx hb dX10_swap_183 (by decide) ?_
                        have zi_m2 : ((-2) : Int32).toInt = (-2) := by decide
                        exact tx_iret (z := (ge_242, gk_243, gf_244, gs_245, gg_246, RN_247, K, F, S, N, gS)) hx hb hr hlk hG hS ⟨(show okM K F S N 0 gI.toInt from hO0), (show swM gS K F S N gI.toInt from hW)⟩ dX10_swap_185
                      · skip
                        have c_304 : 0 = vj237.toInt := q_eq c_304
                        refine lv_iload_n hx hb dX10_swap_166 rfl (lv_at hl 1 rfl) ?_
                        refine lv_pc (pc2 := 167) rfl ?_
                        refine lv_if_eq (tgt := 186) hx hb dX10_swap_167 (by decide) (fun q => absurd q (by decide)) (fun _ => ?_)
                        refine lv_aload_n hx hb dX10_swap_170 rfl (lv_at hl 3 rfl) ?_
                        refine va_get (D := D) (ci := 9) (v := .int gf_244) (C := RX10) (T := TX10) (N := 36) hx hb hts in10 hown hK (va_one at_300) 0 rfl rfl 29 (by decide) (hts (.fieldLink RX10 135 "RiverModelModel" "readFirst" "I") (List.mem_of_getElem? (i := 21) rfl)) (fun _ h9 => h9) rfl dX10_swap_171 ?_
                        refine lv_aload_n hx hb dX10_swap_174 rfl (lv_at hl 3 rfl) ?_
                        refine va_get (D := D) (ci := 9) (v := .ref r_257) (C := RX10) (T := TX10) (N := 36) hx hb hts in10 hown hK (va_one at_300) 0 rfl rfl 5 (by decide) (hts (.fieldLink RX10 16 "RiverModelModel" "first" "[I") (List.mem_of_getElem? (i := 22) rfl)) (fun _ h9 => h9) rfl dX10_swap_175 ?_
                        refine lv_iload_n hx hb dX10_swap_178 rfl (lv_at hl 4 rfl) ?_
                        have at_305 := mF_o43 hG h_258
                        have b_306 : vp_in a1 120 := (q_in (by omega) (by omega))
                        refine va_iald hx hb hK (va_one at_305) 0 0 rfl rfl b_306 dX10_swap_179 ?_
                        refine lv_topi (fun x_307 e_308 => ?_)
                        have w_x_307 : x_307 = F (0 + a1.toInt).toNat := by rw [e_308]; exact congrArg (fun q : Int => F q.toNat) (show a1.toInt = 0 + a1.toInt by omega)
                        have i_x_307 : x_307.toInt = (F (0 + a1.toInt).toNat).toInt := by rw [w_x_307]
                        refine lv_icmp_eq (tgt := 186) hx hb dX10_swap_180 (by decide) (fun c_309 => ?_) (fun c_309 => ?_)
                        · skip
                          have c_309 : gf_244.toInt = x_307.toInt := q_eq c_309
                          refine lv_pc (pc2 := 186) rfl ?_
                          refine lv_aload_n hx hb dX10_swap_186 rfl (lv_at hl 3 rfl) ?_
                          refine lv_iconst (v := 2) hx hb dX10_swap_187 (by decide) ?_
                          refine lv_iconst (v := 0) hx hb dX10_swap_188 (by decide) ?_
                          have zi_2 : (2 : Int32).toInt = 2 := by decide
                          refine tx_callv (W.runV (As := [.int 2, .int 0]) (rest := []) ⟨hx, hb, hml, hown, hts⟩ (m_X10_copies l D t cI cL cC gC gE gW gA gT gI gS gM K F S N gH gJ ge_242 gk_243 gf_244 gs_245 gg_246 gr RN_247 a0 2 0 80 0 240 0 uq (by omega) (by omega) (by omega) (by omega) (by omega) (by omega) (by omega) (by omega) (by omega) k_a0) (cwV 2 hts gu_X10_swap_X10_copies_170 rfl rfl rfl (by decide +kernel) ⟨Nat.le_of_ble_eq_true rfl, Nat.le_of_ble_eq_true rfl⟩) (tP_V hG hE at_300 rfl) rfl rfl hl.1 rfl (lv_room (Nat.le_of_ble_eq_true rfl)) dX10_swap_189 ⟨Nat.le_of_ble_eq_true rfl, Nat.le_of_ble_eq_true rfl⟩) hS (wrL_sub (by decide)) (fun zz_313 H locs hp_311 hG hS o_312 => ?_)
                          obtain ⟨K_314, F_315, S_316, N_317⟩ := zz_313
                          have at_300 := va_at.keptC at_300 o_312 k_a0 rfl
                          replace hG : tG D (mF cI cL cC gC gE gW gA gT gI gS gM K_314 F_315 S_316 N_317 gH gJ ge_242 gk_243 gf_244 gs_245 gg_246 gr RN_247) t H := hG
                          have hp_311 : cpd K K_314 80 0 40 ∧ cpd F F_315 80 0 40 ∧ cpd S S_316 80 0 40 ∧ cpd N N_317 240 0 120 := hp_311
                          obtain ⟨p_318, p_319, p_320, p_321⟩ := hp_311
                          refine lv_aload_n hx hb dX10_swap_192 rfl (lv_at hl 3 rfl) ?_
                          refine lv_iconst (v := 2) hx hb dX10_swap_193 (by decide) ?_
                          refine lv_iload_n hx hb dX10_swap_194 rfl (lv_at hl 4 rfl) ?_
                          refine tx_callv (W.runV (As := [.int 2, .int a1]) (rest := []) ⟨hx, hb, hml, hown, hts⟩ (m_X10_lays l D t cI cL cC gC gE gW gA gT gI gS gM K_314 F_315 S_316 N_317 gH gJ ge_242 gk_243 gf_244 gs_245 gg_246 gr RN_247 a0 2 a1 80 uq (by omega) (by omega) (by omega) (by omega) (by omega) k_a0) (cwV 2 hts gu_X10_swap_X10_lays_155 rfl rfl rfl (by decide +kernel) ⟨Nat.le_of_ble_eq_true rfl, Nat.le_of_ble_eq_true rfl⟩) (tP_V hG hE at_300 rfl) rfl rfl hl.1 rfl (lv_room (Nat.le_of_ble_eq_true rfl)) dX10_swap_195 ⟨Nat.le_of_ble_eq_true rfl, Nat.le_of_ble_eq_true rfl⟩) hS (wrL_sub (by decide)) (fun zz_325 H locs hp_323 hG hS o_324 => ?_)
                          obtain ⟨K_326, F_327, S_328, N_329⟩ := zz_325
                          have at_300 := va_at.keptC at_300 o_324 k_a0 rfl
                          replace hG : tG D (mF cI cL cC gC gE gW gA gT gI gS gM K_326 F_327 S_328 N_329 gH gJ ge_242 gk_243 gf_244 gs_245 gg_246 gr RN_247) t H := hG
                          have hp_323 : K_326 = upd K_314 (80 + a1.toInt).toNat gk_243 ∧ F_327 = upd F_315 (80 + a1.toInt).toNat gf_244 ∧ S_328 = upd S_316 (80 + a1.toInt).toNat gs_245 ∧ N_329 = upd (upd (upd N_317 (3 * (80 + a1.toInt)).toNat (RN_247 0)) (3 * (80 + a1.toInt) + 1).toNat (RN_247 1)) (3 * (80 + a1.toInt) + 2).toNat (RN_247 2) := hp_323
                          obtain ⟨p_330, p_331, p_332, p_333⟩ := hp_323
                          have ok2 : okM K_314 F_315 S_316 N_317 80 gI.toInt := okM.cpy (a := 80) (b := 0) (by decide) (by decide) (by omega) p_318 p_319 p_320 p_321 hO0
                          have c2 := p_318.1 a1.toInt (by omega) (by omega)
                          have c3 := p_319.1 a1.toInt (by omega) (by omega)
                          have hi7 : gk_243.toInt = 111 → hasS K_314 F_315 80 gI.toInt gf_244 := fun q => hasS.cp (b := 0) (fun j h0 h1 => p_318.1 j h0 (by omega)) (fun j h0 h1 => p_319.1 j h0 (by omega)) ((v59_2 _ p_250.1 p_250.2.1 (p_251 (by omega))).mono (by omega))
                          have ok3 : okM K_326 F_327 S_328 N_329 80 gI.toInt := okM.swp (b := 80) (i := a1.toInt) (by decide) (by omega) p_330 p_331 p_332 p_333 ok2 (fun q => by rw [c2] at q; rw [c3]; exact ⟨by omega, Int32.toInt_inj.mp (by omega)⟩) p_250 hi7
                          have kp0 : kpO K K_326 80 40 := kpO.upd p_318.2 (by decide) (i := 80 + a1.toInt) (by omega) p_330
                          have kp1 : kpO F F_327 80 40 := kpO.upd p_319.2 (by decide) (i := 80 + a1.toInt) (by omega) p_331
                          have kp2 : kpO S S_328 80 40 := kpO.upd p_320.2 (by decide) (i := 80 + a1.toInt) (by omega) p_332
                          have kp3 : kpO N N_329 240 120 := kpO.upd (kpO.upd (kpO.upd p_321.2 (by decide) (i := 3 * (80 + a1.toInt)) (by omega) rfl) (by decide) (i := 3 * (80 + a1.toInt) + 1) (by omega) rfl) (by decide) (i := 3 * (80 + a1.toInt) + 2) (by omega) p_333
                          have ok0 : okM K_326 F_327 S_328 N_329 0 gI.toInt := okM.kpg (a := 80) (a3 := 240) (by decide) (by decide) (by omega) kp0 kp1 kp2 kp3 hO0
                          refine lv_pc (pc2 := 198) rfl ?_
                          refine lv_aload_n hx hb dX10_swap_198 rfl (lv_at hl 3 rfl) ?_
                          refine lv_iconst (v := 1) hx hb dX10_swap_199 (by decide) ?_
                          have zi_1 : (1 : Int32).toInt = 1 := by decide
                          refine ty_put (D := D) (ci := 9) (v := .int 1) (ty := .boolean) (C := RX10) (T := TX10) (N := 36) (F2 := (mF cI cL cC gC gE gW gA gT gI 1 gM K_326 F_327 S_328 N_329 gH gJ ge_242 gk_243 gf_244 gs_245 gg_246 gr RN_247)) hx hb hts in10 tyX10 tyX10_ok nmX10 hown hK hG hS at_300 (by rw [k_a0]; rfl) rfl 8 (by decide) (hts (.fieldLink RX10 177 "RiverModelModel" "isSwapped" "Z") (List.mem_of_getElem? (i := 20) rfl)) (fun _ h9 => h9) rfl (by decide +kernel) (by decide) (by decide) (Nat.le_of_ble_eq_true rfl) (by rw [k_a0]; exact ⟨r_252, v_254, r_255, r_257, r_259, r_261, r_263, r_265, r_267, r_269, r_271, r_273, r_275, r_277, r_279, r_281, r_283, r_285, r_287, r_289, r_291, r_293, r_295, v_297, r_298, rfl, h_253, h_256, h_258, h_260, h_262, h_264, h_266, h_268, h_270, h_272, h_274, h_276, h_278, h_280, h_282, h_284, h_286, h_288, h_290, h_292, h_294, h_296, h_299⟩) (fun hG b hb h0 => by obtain ⟨e, g1, g2⟩ := hG b h0; exact ⟨e, g1, mF_gS (fun h => hb (uq b a0 (h.trans k_a0.symm) h0)) g2⟩) dX10_swap_200 (fun H locs hG hS at_334 o_335 => ?_)
                          have at_334 : va_at D vwCl (a0, .inr (9, [.int gC, .ref r_252, .int v_254, .int gI, .ref r_255, .ref r_257, .ref r_259, .ref r_261, .int 1, .ref r_263, .ref r_265, .ref r_267, .ref r_269, .int gM, .ref r_271, .ref r_273, .ref r_275, .int gE, .ref r_277, .ref r_279, .ref r_281, .ref r_283, .ref r_285, .ref r_287, .ref r_289, .ref r_291, .ref r_293, .int ge_242, .int gk_243, .int gf_244, .int gs_245, .int gg_246, .ref r_295, .int gr, .int v_297, .ref r_298])) H := at_334
                          refine lv_iconst (v := 0) hx hb dX10_swap_203 (by decide) ?_
                          exact tx_iret (z := (ge_242, gk_243, gf_244, gs_245, gg_246, RN_247, K_326, F_327, S_328, N_329, 1)) hx hb hr hlk hG hS ⟨(show okM K_326 F_327 S_328 N_329 0 gI.toInt from ok0), (show swM (1 : Int32) K_326 F_327 S_328 N_329 gI.toInt from (Or.inr ok3))⟩ dX10_swap_204
                        · skip
                          have c_309 : gf_244.toInt ≠ x_307.toInt := q_ne c_309
                          refine lv_bipush (v := (-2)) hx hb dX10_swap_183 (by decide) ?_
                          have zi_m2 : ((-2) : Int32).toInt = (-2) := by decide
                          exact tx_iret (z := (ge_242, gk_243, gf_244, gs_245, gg_246, RN_247, K, F, S, N, gS)) hx hb hr hlk hG hS ⟨(show okM K F S N 0 gI.toInt from hO0), (show swM gS K F S N gI.toInt from hW)⟩ dX10_swap_185
                    · skip
                      have c_303 : gk_243.toInt = 103 := q_eq c_303
                      refine lv_iconst (v := 1) hx hb dX10_swap_156 (by decide) ?_
                      refine lv_pc (pc2 := 157) rfl ?_
                      refine lv_goto (tgt := 161) hx hb dX10_swap_157 (by decide) ?_
                      refine lv_iload hx hb dX10_swap_161 (lv_at hl 0 rfl) ?_
                      refine lv_icmp_ne (tgt := 183) hx hb dX10_swap_163 (by decide) (fun c_336 => ?_) (fun c_336 => ?_)
                      · skip
                        have c_336 : 1 ≠ vj237.toInt := q_ne c_336
                        refine lv_bipush (v := (-2)) hx hb dX10_swap_183 (by decide) ?_
                        have zi_m2 : ((-2) : Int32).toInt = (-2) := by decide
                        exact tx_iret (z := (ge_242, gk_243, gf_244, gs_245, gg_246, RN_247, K, F, S, N, gS)) hx hb hr hlk hG hS ⟨(show okM K F S N 0 gI.toInt from hO0), (show swM gS K F S N gI.toInt from hW)⟩ dX10_swap_185
                      · skip
                        have c_336 : 1 = vj237.toInt := q_eq c_336
                        refine lv_iload_n hx hb dX10_swap_166 rfl (lv_at hl 1 rfl) ?_
                        refine lv_if_eq (tgt := 186) hx hb dX10_swap_167 (by decide) (fun q => absurd q (by decide)) (fun _ => ?_)
                        refine lv_aload_n hx hb dX10_swap_170 rfl (lv_at hl 3 rfl) ?_
                        refine lv_pc (pc2 := 171) rfl ?_
                        refine va_get (D := D) (ci := 9) (v := .int gf_244) (C := RX10) (T := TX10) (N := 36) hx hb hts in10 hown hK (va_one at_300) 0 rfl rfl 29 (by decide) (hts (.fieldLink RX10 135 "RiverModelModel" "readFirst" "I") (List.mem_of_getElem? (i := 21) rfl)) (fun _ h9 => h9) rfl dX10_swap_171 ?_
                        refine lv_aload_n hx hb dX10_swap_174 rfl (lv_at hl 3 rfl) ?_
                        refine va_get (D := D) (ci := 9) (v := .ref r_257) (C := RX10) (T := TX10) (N := 36) hx hb hts in10 hown hK (va_one at_300) 0 rfl rfl 5 (by decide) (hts (.fieldLink RX10 16 "RiverModelModel" "first" "[I") (List.mem_of_getElem? (i := 22) rfl)) (fun _ h9 => h9) rfl dX10_swap_175 ?_
                        refine lv_iload_n hx hb dX10_swap_178 rfl (lv_at hl 4 rfl) ?_
                        have at_337 := mF_o43 hG h_258
                        have b_338 : vp_in a1 120 := (q_in (by omega) (by omega))
                        refine va_iald hx hb hK (va_one at_337) 0 0 rfl rfl b_338 dX10_swap_179 ?_
                        refine lv_topi (fun x_339 e_340 => ?_)
                        have w_x_339 : x_339 = F (0 + a1.toInt).toNat := by rw [e_340]; exact congrArg (fun q : Int => F q.toNat) (show a1.toInt = 0 + a1.toInt by omega)
                        have i_x_339 : x_339.toInt = (F (0 + a1.toInt).toNat).toInt := by rw [w_x_339]
                        refine lv_icmp_eq (tgt := 186) hx hb dX10_swap_180 (by decide) (fun c_341 => ?_) (fun c_341 => ?_)
                        · skip
                          have c_341 : gf_244.toInt = x_339.toInt := q_eq c_341
                          refine lv_aload_n hx hb dX10_swap_186 rfl (lv_at hl 3 rfl) ?_
                          refine lv_iconst (v := 2) hx hb dX10_swap_187 (by decide) ?_
                          refine lv_pc (pc2 := 188) rfl ?_
                          refine lv_iconst (v := 0) hx hb dX10_swap_188 (by decide) ?_
                          have zi_2 : (2 : Int32).toInt = 2 := by decide
                          refine tx_callv (W.runV (As := [.int 2, .int 0]) (rest := []) ⟨hx, hb, hml, hown, hts⟩ (m_X10_copies l D t cI cL cC gC gE gW gA gT gI gS gM K F S N gH gJ ge_242 gk_243 gf_244 gs_245 gg_246 gr RN_247 a0 2 0 80 0 240 0 uq (by omega) (by omega) (by omega) (by omega) (by omega) (by omega) (by omega) (by omega) (by omega) k_a0) (cwV 2 hts gu_X10_swap_X10_copies_170 rfl rfl rfl (by decide +kernel) ⟨Nat.le_of_ble_eq_true rfl, Nat.le_of_ble_eq_true rfl⟩) (tP_V hG hE at_300 rfl) rfl rfl hl.1 rfl (lv_room (Nat.le_of_ble_eq_true rfl)) dX10_swap_189 ⟨Nat.le_of_ble_eq_true rfl, Nat.le_of_ble_eq_true rfl⟩) hS (wrL_sub (by decide)) (fun zz_345 H locs hp_343 hG hS o_344 => ?_)
                          obtain ⟨K_346, F_347, S_348, N_349⟩ := zz_345
                          have at_300 := va_at.keptC at_300 o_344 k_a0 rfl
                          replace hG : tG D (mF cI cL cC gC gE gW gA gT gI gS gM K_346 F_347 S_348 N_349 gH gJ ge_242 gk_243 gf_244 gs_245 gg_246 gr RN_247) t H := hG
                          have hp_343 : cpd K K_346 80 0 40 ∧ cpd F F_347 80 0 40 ∧ cpd S S_348 80 0 40 ∧ cpd N N_349 240 0 120 := hp_343
                          obtain ⟨p_350, p_351, p_352, p_353⟩ := hp_343
                          refine lv_aload_n hx hb dX10_swap_192 rfl (lv_at hl 3 rfl) ?_
                          refine lv_iconst (v := 2) hx hb dX10_swap_193 (by decide) ?_
                          refine lv_iload_n hx hb dX10_swap_194 rfl (lv_at hl 4 rfl) ?_
                          refine tx_callv (W.runV (As := [.int 2, .int a1]) (rest := []) ⟨hx, hb, hml, hown, hts⟩ (m_X10_lays l D t cI cL cC gC gE gW gA gT gI gS gM K_346 F_347 S_348 N_349 gH gJ ge_242 gk_243 gf_244 gs_245 gg_246 gr RN_247 a0 2 a1 80 uq (by omega) (by omega) (by omega) (by omega) (by omega) k_a0) (cwV 2 hts gu_X10_swap_X10_lays_155 rfl rfl rfl (by decide +kernel) ⟨Nat.le_of_ble_eq_true rfl, Nat.le_of_ble_eq_true rfl⟩) (tP_V hG hE at_300 rfl) rfl rfl hl.1 rfl (lv_room (Nat.le_of_ble_eq_true rfl)) dX10_swap_195 ⟨Nat.le_of_ble_eq_true rfl, Nat.le_of_ble_eq_true rfl⟩) hS (wrL_sub (by decide)) (fun zz_357 H locs hp_355 hG hS o_356 => ?_)
                          obtain ⟨K_358, F_359, S_360, N_361⟩ := zz_357
                          have at_300 := va_at.keptC at_300 o_356 k_a0 rfl
                          replace hG : tG D (mF cI cL cC gC gE gW gA gT gI gS gM K_358 F_359 S_360 N_361 gH gJ ge_242 gk_243 gf_244 gs_245 gg_246 gr RN_247) t H := hG
                          have hp_355 : K_358 = upd K_346 (80 + a1.toInt).toNat gk_243 ∧ F_359 = upd F_347 (80 + a1.toInt).toNat gf_244 ∧ S_360 = upd S_348 (80 + a1.toInt).toNat gs_245 ∧ N_361 = upd (upd (upd N_349 (3 * (80 + a1.toInt)).toNat (RN_247 0)) (3 * (80 + a1.toInt) + 1).toNat (RN_247 1)) (3 * (80 + a1.toInt) + 2).toNat (RN_247 2) := hp_355
                          obtain ⟨p_362, p_363, p_364, p_365⟩ := hp_355
                          have ok2 : okM K_346 F_347 S_348 N_349 80 gI.toInt := okM.cpy (a := 80) (b := 0) (by decide) (by decide) (by omega) p_350 p_351 p_352 p_353 hO0
                          have c2 := p_350.1 a1.toInt (by omega) (by omega)
                          have c3 := p_351.1 a1.toInt (by omega) (by omega)
                          have hi7 : gk_243.toInt = 111 → hasS K_346 F_347 80 gI.toInt gf_244 := fun q => hasS.cp (b := 0) (fun j h0 h1 => p_350.1 j h0 (by omega)) (fun j h0 h1 => p_351.1 j h0 (by omega)) ((v59_2 _ p_250.1 p_250.2.1 (p_251 (by omega))).mono (by omega))
                          have ok3 : okM K_358 F_359 S_360 N_361 80 gI.toInt := okM.swp (b := 80) (i := a1.toInt) (by decide) (by omega) p_362 p_363 p_364 p_365 ok2 (fun q => by rw [c2] at q; rw [c3]; exact ⟨by omega, Int32.toInt_inj.mp (by omega)⟩) p_250 hi7
                          have kp0 : kpO K K_358 80 40 := kpO.upd p_350.2 (by decide) (i := 80 + a1.toInt) (by omega) p_362
                          have kp1 : kpO F F_359 80 40 := kpO.upd p_351.2 (by decide) (i := 80 + a1.toInt) (by omega) p_363
                          have kp2 : kpO S S_360 80 40 := kpO.upd p_352.2 (by decide) (i := 80 + a1.toInt) (by omega) p_364
                          have kp3 : kpO N N_361 240 120 := kpO.upd (kpO.upd (kpO.upd p_353.2 (by decide) (i := 3 * (80 + a1.toInt)) (by omega) rfl) (by decide) (i := 3 * (80 + a1.toInt) + 1) (by omega) rfl) (by decide) (i := 3 * (80 + a1.toInt) + 2) (by omega) p_365
                          have ok0 : okM K_358 F_359 S_360 N_361 0 gI.toInt := okM.kpg (a := 80) (a3 := 240) (by decide) (by decide) (by omega) kp0 kp1 kp2 kp3 hO0
                          refine lv_aload_n hx hb dX10_swap_198 rfl (lv_at hl 3 rfl) ?_
                          refine lv_iconst (v := 1) hx hb dX10_swap_199 (by decide) ?_
                          refine lv_pc (pc2 := 200) rfl ?_
                          have zi_1 : (1 : Int32).toInt = 1 := by decide
                          refine ty_put (D := D) (ci := 9) (v := .int 1) (ty := .boolean) (C := RX10) (T := TX10) (N := 36) (F2 := (mF cI cL cC gC gE gW gA gT gI 1 gM K_358 F_359 S_360 N_361 gH gJ ge_242 gk_243 gf_244 gs_245 gg_246 gr RN_247)) hx hb hts in10 tyX10 tyX10_ok nmX10 hown hK hG hS at_300 (by rw [k_a0]; rfl) rfl 8 (by decide) (hts (.fieldLink RX10 177 "RiverModelModel" "isSwapped" "Z") (List.mem_of_getElem? (i := 20) rfl)) (fun _ h9 => h9) rfl (by decide +kernel) (by decide) (by decide) (Nat.le_of_ble_eq_true rfl) (by rw [k_a0]; exact ⟨r_252, v_254, r_255, r_257, r_259, r_261, r_263, r_265, r_267, r_269, r_271, r_273, r_275, r_277, r_279, r_281, r_283, r_285, r_287, r_289, r_291, r_293, r_295, v_297, r_298, rfl, h_253, h_256, h_258, h_260, h_262, h_264, h_266, h_268, h_270, h_272, h_274, h_276, h_278, h_280, h_282, h_284, h_286, h_288, h_290, h_292, h_294, h_296, h_299⟩) (fun hG b hb h0 => by obtain ⟨e, g1, g2⟩ := hG b h0; exact ⟨e, g1, mF_gS (fun h => hb (uq b a0 (h.trans k_a0.symm) h0)) g2⟩) dX10_swap_200 (fun H locs hG hS at_366 o_367 => ?_)
                          have at_366 : va_at D vwCl (a0, .inr (9, [.int gC, .ref r_252, .int v_254, .int gI, .ref r_255, .ref r_257, .ref r_259, .ref r_261, .int 1, .ref r_263, .ref r_265, .ref r_267, .ref r_269, .int gM, .ref r_271, .ref r_273, .ref r_275, .int gE, .ref r_277, .ref r_279, .ref r_281, .ref r_283, .ref r_285, .ref r_287, .ref r_289, .ref r_291, .ref r_293, .int ge_242, .int gk_243, .int gf_244, .int gs_245, .int gg_246, .ref r_295, .int gr, .int v_297, .ref r_298])) H := at_366
                          refine lv_iconst (v := 0) hx hb dX10_swap_203 (by decide) ?_
                          exact tx_iret (z := (ge_242, gk_243, gf_244, gs_245, gg_246, RN_247, K_358, F_359, S_360, N_361, 1)) hx hb hr hlk hG hS ⟨(show okM K_358 F_359 S_360 N_361 0 gI.toInt from ok0), (show swM (1 : Int32) K_358 F_359 S_360 N_361 gI.toInt from (Or.inr ok3))⟩ dX10_swap_204
                        · skip
                          have c_341 : gf_244.toInt ≠ x_339.toInt := q_ne c_341
                          refine lv_bipush (v := (-2)) hx hb dX10_swap_183 (by decide) ?_
                          have zi_m2 : ((-2) : Int32).toInt = (-2) := by decide
                          exact tx_iret (z := (ge_242, gk_243, gf_244, gs_245, gg_246, RN_247, K, F, S, N, gS)) hx hb hr hlk hG hS ⟨(show okM K F S N 0 gI.toInt from hO0), (show swM gS K F S N gI.toInt from hW)⟩ dX10_swap_185
              · skip
                refine lv_if_eq (tgt := 183) hx hb dX10_swap_115 (by decide) (fun _ => ?_) (fun q => absurd (by decide) q)
                refine lv_bipush (v := (-2)) hx hb dX10_swap_183 (by decide) ?_
                have zi_m2 : ((-2) : Int32).toInt = (-2) := by decide
                exact tx_iret (z := (ge_242, gk_243, gf_244, gs_245, gg_246, RN_247, K, F, S, N, gS)) hx hb hr hlk hG hS ⟨(show okM K F S N 0 gI.toInt from hO0), (show swM gS K F S N gI.toInt from hW)⟩ dX10_swap_185
            refine (hWW237 _ _ _).mpr ?_
            refine lv_pc (pc2 := 90) rfl ?_
            refine lv_aload_n hx hb dX10_swap_90 rfl (lv_at hl 2 rfl) ?_
            refine va_get (D := D) (ci := 9) (v := .ref r_63) (C := RX10) (T := TX10) (N := 36) hx hb hts in10 hown hK (va_one at_108) 0 rfl rfl 4 (by decide) (hts (.fieldLink RX10 13 "RiverModelModel" "kind" "[I") (List.mem_of_getElem? (i := 7) rfl)) (fun _ h9 => h9) rfl dX10_swap_91 ?_
            refine lv_iload_n hx hb dX10_swap_94 rfl (lv_at hl 3 rfl) ?_
            have b_368 : vp_in a1 120 := (q_in (by omega) (by omega))
            refine va_iald hx hb hK (va_one at_109) 0 0 rfl rfl b_368 dX10_swap_95 ?_
            refine lv_seti (y := x_111) e_112.symm ?_
            refine lv_bipush (v := 103) hx hb dX10_swap_96 (by decide) ?_
            refine lv_icmp_ne (tgt := 105) hx hb dX10_swap_98 (by decide) (fun c_369 => ?_) (fun c_369 => ?_)
            · skip
              have c_369 : x_111.toInt ≠ 103 := q_ne c_369
              refine lv_iconst (v := 0) hx hb dX10_swap_105 (by decide) ?_
              have zi_0 : (0 : Int32).toInt = 0 := by decide
              exact (hWW237 _ _ _).mp (jn237 0 (by omega) (by omega))
            · skip
              have c_369 : x_111.toInt = 103 := q_eq c_369
              refine lv_iconst (v := 1) hx hb dX10_swap_101 (by decide) ?_
              refine lv_pc (pc2 := 102) rfl ?_
              refine lv_goto (tgt := 106) hx hb dX10_swap_102 (by decide) ?_
              have zi_1 : (1 : Int32).toInt = 1 := by decide
              exact (hWW237 _ _ _).mp (jn237 1 (by omega) (by omega))
        have lp59 : ∀ (kk59 : Nat) (yk : Int32) (yn : Int32) (H1 : Heap) (locs1 : List Loc) (ls1 : Array Slot), a1.toInt - yk.toInt ≤ (kk59 : Int) → (0 ≤ yk.toInt) → (yk.toInt ≤ a1.toInt) → (nmS K F 0 yk.toInt yn) → tG D (mF cI cL cC gC gE gW gA gT gI gS gM K F S N gH gJ ge gk gf gs gg gr RN) t H1 → tF t wPI s.heap H1 locs1 → lv_has ls1 5 [(3, .int yk), (2, .int yn), (0, .ref a0), (1, .int a1)] → WW59 H1 locs1 (F0 m 36 ls1 []) := by
          intro kk59
          induction kk59 with
          | zero =>
            intro yk yn H locs ls hk59 v59_0 v59_1 v59_2 hG hS hl
            refine (hWW59 _ _ _).mpr ?_
            refine lv_iload_n hx hb dX10_swap_36 rfl (lv_at hl 0 rfl) ?_
            refine lv_iload_n hx hb dX10_swap_37 rfl (lv_at hl 3 rfl) ?_
            refine lv_icmp_ge (tgt := 73) hx hb dX10_swap_38 (by decide) (fun c_370 => ?_) (fun c_370 => ?_)
            · skip
              have c_370 : a1.toInt ≤ yk.toInt := q_le c_370
              exact (hWW59 _ _ _).mp (kx59 yk yn H locs ls v59_0 v59_1 v59_2 (by omega) hG hS (lv_sub hl [0, 1, 2, 3] rfl))
            · skip
              have c_370 : yk.toInt < a1.toInt := q_nle c_370
              exfalso; omega
          | succ kk59 ih59 =>
            intro yk yn H locs ls hk59 v59_0 v59_1 v59_2 hG hS hl
            refine (hWW59 _ _ _).mpr ?_
            refine lv_iload_n hx hb dX10_swap_36 rfl (lv_at hl 0 rfl) ?_
            refine lv_iload_n hx hb dX10_swap_37 rfl (lv_at hl 3 rfl) ?_
            refine lv_icmp_ge (tgt := 73) hx hb dX10_swap_38 (by decide) (fun c_371 => ?_) (fun c_371 => ?_)
            · skip
              have c_371 : a1.toInt ≤ yk.toInt := q_le c_371
              exact (hWW59 _ _ _).mp (kx59 yk yn H locs ls v59_0 v59_1 v59_2 (by omega) hG hS (lv_sub hl [0, 1, 2, 3] rfl))
            · skip
              have c_371 : yk.toInt < a1.toInt := q_nle c_371
              have hok := hO0 yk.toInt (by omega) (by omega)
              have o1 := hok.1
              have o2 := hok.2.1
              refine lv_iload_n hx hb dX10_swap_41 rfl (lv_at hl 1 rfl) ?_
              refine lv_pc (pc2 := 42) rfl ?_
              refine lv_aload_n hx hb dX10_swap_42 rfl (lv_at hl 2 rfl) ?_
              obtain ⟨r_372, v_374, r_375, r_377, r_379, r_381, r_383, r_385, r_387, r_389, r_391, r_393, r_395, r_397, r_399, r_401, r_403, r_405, r_407, r_409, r_411, r_413, r_415, v_417, r_418, at_420, h_373, h_376, h_378, h_380, h_382, h_384, h_386, h_388, h_390, h_392, h_394, h_396, h_398, h_400, h_402, h_404, h_406, h_408, h_410, h_412, h_414, h_416, h_419⟩ := mF_o40 hG k_a0
              refine va_get (D := D) (ci := 9) (v := .ref r_375) (C := RX10) (T := TX10) (N := 36) hx hb hts in10 hown hK (va_one at_420) 0 rfl rfl 4 (by decide) (hts (.fieldLink RX10 13 "RiverModelModel" "kind" "[I") (List.mem_of_getElem? (i := 7) rfl)) (fun _ h9 => h9) rfl dX10_swap_43 ?_
              refine lv_iload_n hx hb dX10_swap_46 rfl (lv_at hl 0 rfl) ?_
              have at_421 := mF_o42 hG h_376
              have b_422 : vp_in yk 120 := (q_in (by omega) (by omega))
              refine va_iald hx hb hK (va_one at_421) 0 0 rfl rfl b_422 dX10_swap_47 ?_
              refine lv_topi (fun x_423 e_424 => ?_)
              have w_x_423 : x_423 = K (0 + yk.toInt).toNat := by rw [e_424]; exact congrArg (fun q : Int => K q.toNat) (show yk.toInt = 0 + yk.toInt by omega)
              have i_x_423 : x_423.toInt = (K (0 + yk.toInt).toNat).toInt := by rw [w_x_423]
              refine lv_bipush (v := 115) hx hb dX10_swap_48 (by decide) ?_
              refine lv_icmp_ne (tgt := 64) hx hb dX10_swap_50 (by decide) (fun c_425 => ?_) (fun c_425 => ?_)
              · skip
                have c_425 : x_423.toInt ≠ 115 := q_ne c_425
                refine lv_iconst (v := 0) hx hb dX10_swap_64 (by decide) ?_
                refine lv_ior hx hb dX10_swap_65 ?_
                refine lv_topi (fun x_426 e_427 => ?_)
                refine lv_pc (pc2 := 66) rfl ?_
                refine lv_istore_n (lv' := [(2, .int x_426), (3, .int yk), (0, .ref a0), (1, .int a1)]) hx hb dX10_swap_66 rfl hl (by decide) rfl (fun ls hl => ?_)
                obtain ⟨x_428, e_429⟩ : ∃ y : Int32, y = yk + Int32.ofInt 1 := ⟨_, rfl⟩
                have i_x_428 : x_428.toInt = yk.toInt + 1 := by rw [e_429, show Int32.ofInt 1 = 1 by decide]; exact (q_add (by rw [show (1 : Int32).toInt = 1 by decide]; omega) (by rw [show (1 : Int32).toInt = 1 by decide]; omega)).trans (by rw [show (1 : Int32).toInt = 1 by decide])
                refine lv_iinc (v := x_428) (lv' := [(3, .int x_428), (2, .int x_426), (0, .ref a0), (1, .int a1)]) hx hb dX10_swap_67 hl (k := 1) rfl e_429.symm (by decide) rfl (fun ls hl => ?_)
                refine lv_goto (tgt := 36) hx hb dX10_swap_70 (by decide) ?_
                exact (hWW59 _ _ _).mp (ih59 x_428 x_426 H locs ls (by omega) (by omega) (by omega) (by rw [show x_428.toInt = yk.toInt + 1 by omega, e_427, or_0]; exact nmS.step v59_2) hG hS (lv_sub hl [0, 1, 2, 3] rfl))
              · skip
                have c_425 : x_423.toInt = 115 := q_eq c_425
                refine lv_iconst (v := 1) hx hb dX10_swap_53 (by decide) ?_
                refine lv_aload_n hx hb dX10_swap_54 rfl (lv_at hl 2 rfl) ?_
                refine va_get (D := D) (ci := 9) (v := .ref r_377) (C := RX10) (T := TX10) (N := 36) hx hb hts in10 hown hK (va_one at_420) 0 rfl rfl 5 (by decide) (hts (.fieldLink RX10 16 "RiverModelModel" "first" "[I") (List.mem_of_getElem? (i := 22) rfl)) (fun _ h9 => h9) rfl dX10_swap_55 ?_
                refine lv_iload_n hx hb dX10_swap_58 rfl (lv_at hl 0 rfl) ?_
                have at_430 := mF_o43 hG h_378
                have b_431 : vp_in yk 120 := (q_in (by omega) (by omega))
                refine va_iald hx hb hK (va_one at_430) 0 0 rfl rfl b_431 dX10_swap_59 ?_
                refine lv_topi (fun x_432 e_433 => ?_)
                have w_x_432 : x_432 = F (0 + yk.toInt).toNat := by rw [e_433]; exact congrArg (fun q : Int => F q.toNat) (show yk.toInt = 0 + yk.toInt by omega)
                have i_x_432 : x_432.toInt = (F (0 + yk.toInt).toNat).toInt := by rw [w_x_432]
                refine lv_pc (pc2 := 60) rfl ?_
                refine lv_ishl hx hb dX10_swap_60 ?_
                refine lv_topi (fun x_434 e_435 => ?_)
                refine lv_goto (tgt := 65) hx hb dX10_swap_61 (by decide) ?_
                refine lv_ior hx hb dX10_swap_65 ?_
                refine lv_topi (fun x_436 e_437 => ?_)
                refine lv_istore_n (lv' := [(2, .int x_436), (3, .int yk), (0, .ref a0), (1, .int a1)]) hx hb dX10_swap_66 rfl hl (by decide) rfl (fun ls hl => ?_)
                obtain ⟨x_438, e_439⟩ : ∃ y : Int32, y = yk + Int32.ofInt 1 := ⟨_, rfl⟩
                have i_x_438 : x_438.toInt = yk.toInt + 1 := by rw [e_439, show Int32.ofInt 1 = 1 by decide]; exact (q_add (by rw [show (1 : Int32).toInt = 1 by decide]; omega) (by rw [show (1 : Int32).toInt = 1 by decide]; omega)).trans (by rw [show (1 : Int32).toInt = 1 by decide])
                refine lv_iinc (v := x_438) (lv' := [(3, .int x_438), (2, .int x_436), (0, .ref a0), (1, .int a1)]) hx hb dX10_swap_67 hl (k := 1) rfl e_439.symm (by decide) rfl (fun ls hl => ?_)
                refine lv_goto (tgt := 36) hx hb dX10_swap_70 (by decide) ?_
                exact (hWW59 _ _ _).mp (ih59 x_438 x_436 H locs ls (by omega) (by omega) (by omega) (by rw [show x_438.toInt = yk.toInt + 1 by omega, e_437, e_435]; exact nmS.stepS (f := x_432) (by omega) (by omega) (by omega) (by omega) w_x_432.symm v59_2) hG hS (lv_sub hl [0, 1, 2, 3] rfl))
        have zi_0 : (0 : Int32).toInt = 0 := by decide
        exact lp59 (a1.toInt - (0 : Int32).toInt : Int).toNat 0 0 H locs ls (by omega) (by omega) (by omega) nmS.zero hG hS (lv_sub hl [0, 1, 2, 3] rfl)
      · skip
        have c_58 : gI.toInt ≤ a1.toInt := q_nlt c_58
        refine lv_bipush (v := (-2)) hx hb dX10_swap_29 (by decide) ?_
        have zi_m2 : ((-2) : Int32).toInt = (-2) := by decide
        exact tx_iret (z := (ge, gk, gf, gs, gg, RN, K, F, S, N, gS)) hx hb hr hlk hG hS ⟨(show okM K F S N 0 gI.toInt from hO0), (show swM gS K F S N gI.toInt from hW)⟩ dX10_swap_31
  · skip
    refine lv_pc (pc2 := 9) rfl ?_
    refine lv_if_ne (tgt := 14) hx hb dX10_swap_9 (by decide) (fun q => absurd rfl q) (fun _ => ?_)
    refine lv_iconst (v := (-1)) hx hb dX10_swap_12 (by decide) ?_
    have zi_m1 : ((-1) : Int32).toInt = (-1) := by decide
    exact tx_iret (z := (ge, gk, gf, gs, gg, RN, K, F, S, N, gS)) hx hb hr hlk hG hS ⟨(show okM K F S N 0 gI.toInt from hO0), (show swM gS K F S N gI.toInt from hW)⟩ dX10_swap_13

def uX10_swapped : List Cond := .code yX10_swapped cX10_swapped 8 (some .long) :: ([.constantLong RX10 243 (3), .methodLink RX10 85 yX10_in, .static yX10_in, .initialized RX10, .constantLong RX10 229 (96), .methodLink RX10 248 yX10_isSet, .instanceMethod yX10_isSet, .selects RX10 yX10_isSet yX10_isSet, .fieldLink RX10 177 "RiverModelModel" "isSwapped" "Z", .methodLink RX10 274 yX10_asides, .instanceMethod yX10_asides, .selects RX10 yX10_asides yX10_asides, .methodLink RX10 186 yX10_begins, .instanceMethod yX10_begins, .selects RX10 yX10_begins yX10_begins, .methodLink RX10 277 yX10_returns, .instanceMethod yX10_returns, .selects RX10 yX10_returns yX10_returns, .methodLink RX10 231 yX10_goes, .instanceMethod yX10_goes, .selects RX10 yX10_goes yX10_goes, .methodLink RX10 251 yX10_reading, .instanceMethod yX10_reading, .selects RX10 yX10_reading yX10_reading, .fieldLink RX10 77 "RiverModelModel" "own" "[J", .constantLong RX10 238 (-2), .constantLong RX10 236 (-1), .code yX10_in cX10_in 6 (some .boolean), .code yX10_isSet cX10_isSet 2 (some .boolean), .fieldLink RX10 173 "RiverModelModel" "isBuilt" "Z", .fieldLink RX10 38 "RiverModelModel" "gaugeKind" "[I", .code yX10_asides cX10_asides 2 none, .fieldLink RX10 32 "RiverModelModel" "aside" "[J", .fieldLink RX10 28 "RiverModelModel" "m" "[J", .code yX10_begins cX10_begins 4 none, .methodLink RX10 183 yX10_startOf, .instanceMethod yX10_startOf, .selects RX10 yX10_startOf yX10_startOf, .methodLink RX10 208 yX10_isStore, .instanceMethod yX10_isStore, .selects RX10 yX10_isStore yX10_isStore, .fieldLink RX10 71 "RiverModelModel" "startB" "[I", .constantLong RX10 204 (224), .constantLong RX10 206 (227), .constantLong RX10 196 (5), .code yX10_startOf cX10_startOf 4 (some .int), .methodLink RX10 166 yX10_storeAt, .instanceMethod yX10_storeAt, .selects RX10 yX10_storeAt yX10_storeAt, .fieldLink RX10 22 "RiverModelModel" "number" "[I", .code yX10_storeAt cX10_storeAt 5 (some .int), .fieldLink RX10 163 "RiverModelModel" "items" "I", .fieldLink RX10 13 "RiverModelModel" "kind" "[I", .fieldLink RX10 16 "RiverModelModel" "first" "[I", .code yX10_isStore cX10_isStore 2 (some .boolean), .code yX10_returns cX10_returns 2 none, .code yX10_goes cX10_goes 4 none, .fieldLink RX10 25 "RiverModelModel" "weather" "[I", .methodLink RX10 225 yX10_passes, .instanceMethod yX10_passes, .selects RX10 yX10_passes yX10_passes, .code yX10_passes cX10_passes 12 none, .methodLink RX10 221 yX10_moves, .instanceMethod yX10_moves, .selects RX10 yX10_moves yX10_moves, .fieldLink RX10 19 "RiverModelModel" "second" "[I", .code yX10_moves cX10_moves 8 (some .long), .constantLong RX10 219 (10), .methodLink RX10 215 yX10_most, .instanceMethod yX10_most, .selects RX10 yX10_most yX10_most, .constantLong RX10 107 (100), .methodLink RX10 211 yX10_capacity, .instanceMethod yX10_capacity, .selects RX10 yX10_capacity yX10_capacity, .code yX10_most cX10_most 4 (some .long), .code yX10_capacity cX10_capacity 3 (some .long), .code yX10_reading cX10_reading 2 (some .long), .fieldLink RX10 41 "RiverModelModel" "gaugeAt" "[I"] ++ wsX100)
set_option maxRecDepth 20000 in
theorem gu_X10_swapped_X10_in_85 : GoodIn uX10_swapped (va_wsS RX10 85 yX10_in uX10_in) := goodIn_r _ [2, 3, 4, 28] rfl (by decide +kernel)
set_option maxRecDepth 20000 in
theorem gu_X10_swapped_X10_isSet_248 : GoodIn uX10_swapped (wsV RX10 248 RX10 yX10_isSet uX10_isSet) := goodIn_r _ [6, 7, 8, 4, 29, 30, 31, 80, 81, 82, 83, 84, 85, 86, 87, 88, 89, 90, 91, 92, 93, 94, 95, 96, 97, 98, 99, 100, 101, 102, 103, 104, 105, 106, 107, 108, 109, 110, 111, 112, 113, 114, 115] rfl (by decide +kernel)
set_option maxRecDepth 20000 in
theorem gu_X10_swapped_X10_asides_274 : GoodIn uX10_swapped (wsV RX10 274 RX10 yX10_asides uX10_asides) := goodIn_r _ [10, 11, 12, 4, 32, 33, 34, 80, 81, 82, 83, 84, 85, 86, 87, 88, 89, 90, 91, 92, 93, 94, 95, 96, 97, 98, 99, 100, 101, 102, 103, 104, 105, 106, 107, 108, 109, 110, 111, 112, 113, 114, 115] rfl (by decide +kernel)
set_option maxRecDepth 20000 in
theorem gu_X10_swapped_X10_begins_186 : GoodIn uX10_swapped (wsV RX10 186 RX10 yX10_begins uX10_begins) := goodIn_r _ [13, 14, 15, 4, 35, 34, 36, 37, 38, 4, 39, 40, 41, 42, 43, 44, 2, 3, 45, 46, 47, 48, 49, 50, 51, 52, 53, 54, 55, 28, 80, 81, 82, 83, 84, 85, 86, 87, 88, 89, 90, 91, 92, 93, 94, 95, 96, 97, 98, 99, 100, 101, 102, 103, 104, 105, 106, 107, 108, 109, 110, 111, 112, 113, 114, 115] rfl (by decide +kernel)
set_option maxRecDepth 20000 in
theorem gu_X10_swapped_X10_returns_277 : GoodIn uX10_swapped (wsV RX10 277 RX10 yX10_returns uX10_returns) := goodIn_r _ [16, 17, 18, 4, 56, 34, 33, 80, 81, 82, 83, 84, 85, 86, 87, 88, 89, 90, 91, 92, 93, 94, 95, 96, 97, 98, 99, 100, 101, 102, 103, 104, 105, 106, 107, 108, 109, 110, 111, 112, 113, 114, 115] rfl (by decide +kernel)
set_option maxRecDepth 20000 in
theorem gu_X10_swapped_X10_goes_231 : GoodIn uX10_swapped (wsV RX10 231 RX10 yX10_goes uX10_goes) := goodIn_r _ [19, 20, 21, 4, 57, 34, 58, 59, 60, 61, 4, 62, 52, 53, 63, 64, 65, 54, 66, 50, 67, 68, 69, 70, 71, 72, 73, 74, 75, 76, 77, 47, 48, 49, 51, 80, 81, 82, 83, 84, 85, 86, 87, 88, 89, 90, 91, 92, 93, 94, 95, 96, 97, 98, 99, 100, 101, 102, 103, 104, 105, 106, 107, 108, 109, 110, 111, 112, 113, 114, 115] rfl (by decide +kernel)
set_option maxRecDepth 20000 in
theorem gu_X10_swapped_X10_reading_251 : GoodIn uX10_swapped (wsV RX10 251 RX10 yX10_reading uX10_reading) := goodIn_r _ [22, 23, 24, 4, 78, 31, 34, 79, 80, 81, 82, 83, 84, 85, 86, 87, 88, 89, 90, 91, 92, 93, 94, 95, 96, 97, 98, 99, 100, 101, 102, 103, 104, 105, 106, 107, 108, 109, 110, 111, 112, 113, 114, 115] rfl (by decide +kernel)
set_option maxHeartbeats 4000000 in
set_option maxRecDepth 100000 in
theorem m_X10_swapped (l : Launch) (D : va_G) (t : Nat → Nat) (cI cL cC : ClassId) (gC : Int32) (gE : Int32) (gW : Nat → Int32) (gA : Nat → Int32) (gT : Nat → Int32) (gI : Int32) (gS : Int32) (gM : Int32) (K : Nat → Int32) (F : Nat → Int32) (S : Nat → Int32) (N : Nat → Int32) (gH : Int) (gJ : Int) (ge : Int32) (gk : Int32) (gf : Int32) (gs : Int32) (gg : Int32) (gr : Int32) (RN : Nat → Int32) (a0 : Nat) (a1 : Int32) (a2 : Int32) (a3 : Int32) (uq : ∀ b c : Nat, t b = t c → t b ≠ 0 → b = c) (hC0 : 0 ≤ gC.toInt) (hC4 : gC.toInt ≤ 400) (hI0 : 0 ≤ gI.toInt) (hI4 : gI.toInt ≤ 40) (hH0 : 0 ≤ gH) (hH9 : gH ≤ 96) (hm0 : 0 ≤ gM.toInt) (hm3 : gM.toInt ≤ 3) (hO0 : okM K F S N 0 gI.toInt) (hW : swM gS K F S N gI.toInt) (k_a0 : t a0 = 40) : tMx (Z := (Int) × (Int)) l yX10_swapped uX10_swapped 5 127 D (mF cI cL cC gC gE gW gA gT gI gS gM K F S N gH gJ ge gk gf gs gg gr RN) (fun z => (mF cI cL cC gC gE gW gA gT gI gS gM K F S N z.1 z.2 ge gk gf gs gg gr RN)) t cI cL cC [.ref a0, .int a1, .int a2, .int a3] wSw (xL (fun r (z : (Int) × (Int)) => 0 ≤ z.1 ∧ z.1 ≤ 96)) := by
  refine tMx.ofW (cc := cX10_swapped) (maxL := 8) (ret := (some .long)) (by decide) rfl (Nat.le_of_ble_eq_true rfl) ?_
  intro p e s m below meth c hx hb hr hml hown hts hlk H locs hG hK hE hS ls hl
  have hl : lv_has ls 8 [(0, .ref a0), (1, .int a1), (2, .int a2), (3, .int a3)] := hl
  have in10 : ∀ w ∈ wsX100, w ∈ uX10_swapped := fun w h => List.mem_cons_of_mem _ (List.mem_append_right _ h)
  refine lv_iload_n hx hb dX10_swapped_0 rfl (lv_at hl 1 rfl) ?_
  refine lv_i2l (v := a1.toInt64) hx hb dX10_swapped_1 rfl ?_
  refine lv_lconst (v := 0) hx hb dX10_swapped_2 (by decide) ?_
  refine lv_ldc2 hx hb hown (hts (.constantLong RX10 243 (3)) (List.mem_of_getElem? (i := 1) rfl)) dX10_swapped_3 ?_
  have zl_0 : (0 : Int64).toInt = 0 := by decide
  have zl_3 : (3 : Int64).toInt = 3 := by decide
  refine ty_calli (W.runS (As := [.long a1.toInt64, .long 0, .long 3]) (rest := []) ⟨hx, hb, hml, hown, hts⟩ (m_X10_in l D t cI cL cC gC gE gW gA gT gI gS gM K F S N gH gJ ge gk gf gs gg gr RN a1.toInt64 0 3 a1.toInt 0 3 uq (q_i2l _) (by decide) (by decide) ) (va_cwS 3 hts gu_X10_swapped_X10_in_85 rfl rfl rfl (by decide +kernel) ⟨Nat.le_of_ble_eq_true rfl, Nat.le_of_ble_eq_true rfl⟩) (tP_S hG hE) rfl rfl hl.1 rfl (lv_room (Nat.le_of_ble_eq_true rfl)) dX10_swapped_6 ⟨Nat.le_of_ble_eq_true rfl, Nat.le_of_ble_eq_true rfl⟩) hS (fun k h => by simp [wr0] at h) (fun r_1 H locs hp_2 hG hS o_3 => ?_)
  have hp_2 : (r_1 = 1 ∧ 0 ≤ a1.toInt ∧ a1.toInt ≤ 3) ∨ (r_1 = 0 ∧ (a1.toInt < 0 ∨ 3 < a1.toInt)) := hp_2
  rcases hp_2 with ⟨rfl, p_5, p_6⟩ | ⟨rfl, p_7⟩
  · skip
    refine lv_if_eq (tgt := 34) hx hb dX10_swapped_9 (by decide) (fun q => absurd q (by decide)) (fun _ => ?_)
    refine lv_iload_n hx hb dX10_swapped_12 rfl (lv_at hl 2 rfl) ?_
    refine lv_pc (pc2 := 13) rfl ?_
    refine lv_i2l (v := a2.toInt64) hx hb dX10_swapped_13 rfl ?_
    refine lv_lconst (v := 1) hx hb dX10_swapped_14 (by decide) ?_
    refine lv_ldc2 hx hb hown (hts (.constantLong RX10 229 (96)) (List.mem_of_getElem? (i := 5) rfl)) dX10_swapped_15 ?_
    have zl_1 : (1 : Int64).toInt = 1 := by decide
    have zl_96 : (96 : Int64).toInt = 96 := by decide
    refine ty_calli (W.runS (As := [.long a2.toInt64, .long 1, .long 96]) (rest := []) ⟨hx, hb, hml, hown, hts⟩ (m_X10_in l D t cI cL cC gC gE gW gA gT gI gS gM K F S N gH gJ ge gk gf gs gg gr RN a2.toInt64 1 96 a2.toInt 1 96 uq (q_i2l _) (by decide) (by decide) ) (va_cwS 3 hts gu_X10_swapped_X10_in_85 rfl rfl rfl (by decide +kernel) ⟨Nat.le_of_ble_eq_true rfl, Nat.le_of_ble_eq_true rfl⟩) (tP_S hG hE) rfl rfl hl.1 rfl (lv_room (Nat.le_of_ble_eq_true rfl)) dX10_swapped_18 ⟨Nat.le_of_ble_eq_true rfl, Nat.le_of_ble_eq_true rfl⟩) hS (fun k h => by simp [wr0] at h) (fun r_8 H locs hp_9 hG hS o_10 => ?_)
    have hp_9 : (r_8 = 1 ∧ 1 ≤ a2.toInt ∧ a2.toInt ≤ 96) ∨ (r_8 = 0 ∧ (a2.toInt < 1 ∨ 96 < a2.toInt)) := hp_9
    rcases hp_9 with ⟨rfl, p_12, p_13⟩ | ⟨rfl, p_14⟩
    · skip
      refine lv_if_eq (tgt := 34) hx hb dX10_swapped_21 (by decide) (fun q => absurd q (by decide)) (fun _ => ?_)
      refine lv_iload_n hx hb dX10_swapped_24 rfl (lv_at hl 3 rfl) ?_
      refine lv_i2l (v := a3.toInt64) hx hb dX10_swapped_25 rfl ?_
      refine lv_lconst (v := 0) hx hb dX10_swapped_26 (by decide) ?_
      refine lv_pc (pc2 := 27) rfl ?_
      refine lv_lconst (v := 1) hx hb dX10_swapped_27 (by decide) ?_
      refine ty_calli (W.runS (As := [.long a3.toInt64, .long 0, .long 1]) (rest := []) ⟨hx, hb, hml, hown, hts⟩ (m_X10_in l D t cI cL cC gC gE gW gA gT gI gS gM K F S N gH gJ ge gk gf gs gg gr RN a3.toInt64 0 1 a3.toInt 0 1 uq (q_i2l _) (by decide) (by decide) ) (va_cwS 3 hts gu_X10_swapped_X10_in_85 rfl rfl rfl (by decide +kernel) ⟨Nat.le_of_ble_eq_true rfl, Nat.le_of_ble_eq_true rfl⟩) (tP_S hG hE) rfl rfl hl.1 rfl (lv_room (Nat.le_of_ble_eq_true rfl)) dX10_swapped_28 ⟨Nat.le_of_ble_eq_true rfl, Nat.le_of_ble_eq_true rfl⟩) hS (fun k h => by simp [wr0] at h) (fun r_15 H locs hp_16 hG hS o_17 => ?_)
      have hp_16 : (r_15 = 1 ∧ 0 ≤ a3.toInt ∧ a3.toInt ≤ 1) ∨ (r_15 = 0 ∧ (a3.toInt < 0 ∨ 1 < a3.toInt)) := hp_16
      rcases hp_16 with ⟨rfl, p_19, p_20⟩ | ⟨rfl, p_21⟩
      · skip
        refine lv_if_ne (tgt := 38) hx hb dX10_swapped_31 (by decide) (fun _ => ?_) (fun q => absurd q (by decide))
        refine lv_aload_n hx hb dX10_swapped_38 rfl (lv_at hl 0 rfl) ?_
        refine lv_iload_n hx hb dX10_swapped_39 rfl (lv_at hl 1 rfl) ?_
        obtain ⟨r_22, v_24, r_25, r_27, r_29, r_31, r_33, r_35, r_37, r_39, r_41, r_43, r_45, r_47, r_49, r_51, r_53, r_55, r_57, r_59, r_61, r_63, r_65, v_67, r_68, at_70, h_23, h_26, h_28, h_30, h_32, h_34, h_36, h_38, h_40, h_42, h_44, h_46, h_48, h_50, h_52, h_54, h_56, h_58, h_60, h_62, h_64, h_66, h_69⟩ := mF_o40 hG k_a0
        refine ty_calli (W.runV (As := [.int a1]) (rest := []) ⟨hx, hb, hml, hown, hts⟩ (m_X10_isSet l D t cI cL cC gC gE gW gA gT gI gS gM K F S N gH gJ ge gk gf gs gg gr RN a0 a1  uq (by omega) (by omega) k_a0) (cwV 1 hts gu_X10_swapped_X10_isSet_248 rfl rfl rfl (by decide +kernel) ⟨Nat.le_of_ble_eq_true rfl, Nat.le_of_ble_eq_true rfl⟩) (tP_V hG hE at_70 rfl) rfl rfl hl.1 rfl (lv_room (Nat.le_of_ble_eq_true rfl)) dX10_swapped_40 ⟨Nat.le_of_ble_eq_true rfl, Nat.le_of_ble_eq_true rfl⟩) hS (fun k h => by simp [wr0] at h) (fun r_71 H locs hp_72 hG hS o_73 => ?_)
        have at_70 := va_at.keptC at_70 o_73 k_a0 rfl
        have hp_72 : (r_71 = 1) ∨ (r_71 = 0) := hp_72
        rcases hp_72 with rfl | rfl
        · skip
          refine lv_if_eq (tgt := 53) hx hb dX10_swapped_43 (by decide) (fun q => absurd q (by decide)) (fun _ => ?_)
          refine lv_aload_n hx hb dX10_swapped_46 rfl (lv_at hl 0 rfl) ?_
          refine lv_pc (pc2 := 47) rfl ?_
          refine va_get (D := D) (ci := 9) (v := .int gS) (C := RX10) (T := TX10) (N := 36) hx hb hts in10 hown hK (va_one at_70) 0 rfl rfl 8 (by decide) (hts (.fieldLink RX10 177 "RiverModelModel" "isSwapped" "Z") (List.mem_of_getElem? (i := 9) rfl)) (fun _ h9 => h9) rfl dX10_swapped_47 ?_
          refine lv_if_ne (tgt := 57) hx hb dX10_swapped_50 (by decide) (fun c_75 => ?_) (fun c_75 => ?_)
          · skip
            have c_75 : gS.toInt ≠ 0 := q_ne c_75
            have okS := Or.resolve_left hW (by omega)
            refine lv_aload_n hx hb dX10_swapped_57 rfl (lv_at hl 0 rfl) ?_
            refine tx_callv (W.runV (As := []) (rest := []) ⟨hx, hb, hml, hown, hts⟩ (m_X10_asides l D t cI cL cC gC gE gW gA gT gI gS gM K F S N gH gJ ge gk gf gs gg gr RN a0  uq  k_a0) (cwV 0 hts gu_X10_swapped_X10_asides_274 rfl rfl rfl (by decide +kernel) ⟨Nat.le_of_ble_eq_true rfl, Nat.le_of_ble_eq_true rfl⟩) (tP_V hG hE at_70 rfl) rfl rfl hl.1 rfl (lv_room (Nat.le_of_ble_eq_true rfl)) dX10_swapped_58 ⟨Nat.le_of_ble_eq_true rfl, Nat.le_of_ble_eq_true rfl⟩) hS (wrL_sub (by decide)) (fun gJ_80 H locs hp_77 hG hS o_78 => ?_)
            have at_70 := va_at.keptC at_70 o_78 k_a0 rfl
            replace hG : tG D (mF cI cL cC gC gE gW gA gT gI gS gM K F S N gH gJ_80 ge gk gf gs gg gr RN) t H := hG
            have hp_77 : gJ_80 = gH := hp_77
            have p_81 := hp_77
            refine lv_aload_n hx hb dX10_swapped_61 rfl (lv_at hl 0 rfl) ?_
            refine lv_iconst (v := 0) hx hb dX10_swapped_62 (by decide) ?_
            refine lv_iconst (v := 0) hx hb dX10_swapped_63 (by decide) ?_
            have zi_0 : (0 : Int32).toInt = 0 := by decide
            refine tx_callv (W.runV (As := [.int 0, .int 0]) (rest := []) ⟨hx, hb, hml, hown, hts⟩ (m_X10_begins l D t cI cL cC gC gE gW gA gT gI gS gM K F S N gH gJ_80 ge gk gf gs gg gr RN a0 0 0 0 uq (by omega) (by omega) (by omega) (by omega) (by omega) k_a0) (cwV 2 hts gu_X10_swapped_X10_begins_186 rfl rfl rfl (by decide +kernel) ⟨Nat.le_of_ble_eq_true rfl, Nat.le_of_ble_eq_true rfl⟩) (tP_V hG hE at_70 rfl) rfl rfl hl.1 rfl (lv_room (Nat.le_of_ble_eq_true rfl)) dX10_swapped_64 ⟨Nat.le_of_ble_eq_true rfl, Nat.le_of_ble_eq_true rfl⟩) hS (wrL_sub (by decide)) (fun gH_86 H locs hp_83 hG hS o_84 => ?_)
            have at_70 := va_at.keptC at_70 o_84 k_a0 rfl
            replace hG : tG D (mF cI cL cC gC gE gW gA gT gI gS gM K F S N gH_86 gJ_80 ge gk gf gs gg gr RN) t H := hG
            have hp_83 : gH_86 = 0 := hp_83
            have p_87 := hp_83
            refine lv_pc (pc2 := 67) rfl ?_
            refine lv_iconst (v := 0) hx hb dX10_swapped_67 (by decide) ?_
            refine lv_istore (lv' := [(4, .int 0), (0, .ref a0), (1, .int a1), (2, .int a2), (3, .int a3)]) hx hb dX10_swapped_68 hl (by decide) rfl (fun ls hl => ?_)
            refine lv_pc (pc2 := 70) rfl ?_
            refine lp_gen (fun WW88 hWW88 => ?_)
            have kx88 : ∀ (yh : Int32) (hm : Int) (H1 : Heap) (locs1 : List Loc) (ls1 : Array Slot), (0 ≤ yh.toInt) → (yh.toInt ≤ a2.toInt) → (hm = yh.toInt) → tG D (mF cI cL cC gC gE gW gA gT gI gS gM K F S N hm gJ_80 ge gk gf gs gg gr RN) t H1 → tF t wSw s.heap H1 locs1 → lv_has ls1 8 [(4, .int yh), (0, .ref a0), (1, .int a1), (2, .int a2), (3, .int a3)] → WW88 H1 locs1 (F0 m 100 ls1 []) := by
              intro yh hm H locs ls v88_0 v88_1 v88_2 hG hS hl
              refine (hWW88 _ _ _).mpr ?_
              refine lv_aload_n hx hb dX10_swapped_100 rfl (lv_at hl 1 rfl) ?_
              refine lv_iconst (v := 2) hx hb dX10_swapped_101 (by decide) ?_
              refine lv_iconst (v := 0) hx hb dX10_swapped_102 (by decide) ?_
              have zi_2 : (2 : Int32).toInt = 2 := by decide
              obtain ⟨r_89, v_91, r_92, r_94, r_96, r_98, r_100, r_102, r_104, r_106, r_108, r_110, r_112, r_114, r_116, r_118, r_120, r_122, r_124, r_126, r_128, r_130, r_132, v_134, r_135, at_137, h_90, h_93, h_95, h_97, h_99, h_101, h_103, h_105, h_107, h_109, h_111, h_113, h_115, h_117, h_119, h_121, h_123, h_125, h_127, h_129, h_131, h_133, h_136⟩ := mF_o40 hG k_a0
              refine tx_callv (W.runV (As := [.int 2, .int 0]) (rest := []) ⟨hx, hb, hml, hown, hts⟩ (m_X10_begins l D t cI cL cC gC gE gW gA gT gI gS gM K F S N hm gJ_80 ge gk gf gs gg gr RN a0 2 0 80 uq (by omega) (by omega) (by omega) (by omega) (by omega) k_a0) (cwV 2 hts gu_X10_swapped_X10_begins_186 rfl rfl rfl (by decide +kernel) ⟨Nat.le_of_ble_eq_true rfl, Nat.le_of_ble_eq_true rfl⟩) (tP_V hG hE at_137 rfl) rfl rfl hl.1 rfl (lv_room (Nat.le_of_ble_eq_true rfl)) dX10_swapped_103 ⟨Nat.le_of_ble_eq_true rfl, Nat.le_of_ble_eq_true rfl⟩) hS (wrL_sub (by decide)) (fun gH_142 H locs hp_139 hG hS o_140 => ?_)
              have at_137 := va_at.keptC at_137 o_140 k_a0 rfl
              replace hG : tG D (mF cI cL cC gC gE gW gA gT gI gS gM K F S N gH_142 gJ_80 ge gk gf gs gg gr RN) t H := hG
              have hp_139 : gH_142 = 0 := hp_139
              have p_143 := hp_139
              refine lv_bipush (v := (-4)) hx hb dX10_swapped_106 (by decide) ?_
              refine lv_istore (lv' := [(4, .int (-4)), (0, .ref a0), (1, .int a1), (2, .int a2), (3, .int a3)]) hx hb dX10_swapped_108 hl (by decide) rfl (fun ls hl => ?_)
              refine lv_pc (pc2 := 110) rfl ?_
              refine lv_lconst (v := 0) hx hb dX10_swapped_110 (by decide) ?_
              refine lv_lstore (lv' := [(5, .long 0), (4, .int (-4)), (0, .ref a0), (1, .int a1), (2, .int a2), (3, .int a3)]) hx hb dX10_swapped_111 hl (by decide) rfl (fun ls hl => ?_)
              refine lv_iconst (v := 0) hx hb dX10_swapped_113 (by decide) ?_
              refine lv_istore (lv' := [(7, .int 0), (5, .long 0), (4, .int (-4)), (0, .ref a0), (1, .int a1), (2, .int a2), (3, .int a3)]) hx hb dX10_swapped_114 hl (by decide) rfl (fun ls hl => ?_)
              refine lv_pc (pc2 := 116) rfl ?_
              refine lp_gen (fun WW144 hWW144 => ?_)
              have kx144 : ∀ (yh : Int32) (ys : Int64) (yf : Int32) (hm : Int) (H1 : Heap) (locs1 : List Loc) (ls1 : Array Slot), (0 ≤ yh.toInt) → (yh.toInt ≤ a2.toInt) → (hm = yh.toInt) → tG D (mF cI cL cC gC gE gW gA gT gI gS gM K F S N hm gJ_80 ge gk gf gs gg gr RN) t H1 → tF t wSw s.heap H1 locs1 → lv_has ls1 8 [(7, .int yh), (5, .long ys), (4, .int yf), (0, .ref a0), (1, .int a1), (2, .int a2), (3, .int a3)] → WW144 H1 locs1 (F0 m 182 ls1 []) := by
                intro yh ys yf hm H locs ls v144_0 v144_1 v144_2 hG hS hl
                refine (hWW144 _ _ _).mpr ?_
                refine lv_aload_n hx hb dX10_swapped_182 rfl (lv_at hl 3 rfl) ?_
                obtain ⟨r_145, v_147, r_148, r_150, r_152, r_154, r_156, r_158, r_160, r_162, r_164, r_166, r_168, r_170, r_172, r_174, r_176, r_178, r_180, r_182, r_184, r_186, r_188, v_190, r_191, at_193, h_146, h_149, h_151, h_153, h_155, h_157, h_159, h_161, h_163, h_165, h_167, h_169, h_171, h_173, h_175, h_177, h_179, h_181, h_183, h_185, h_187, h_189, h_192⟩ := mF_o40 hG k_a0
                refine tx_callv (W.runV (As := []) (rest := []) ⟨hx, hb, hml, hown, hts⟩ (m_X10_returns l D t cI cL cC gC gE gW gA gT gI gS gM K F S N hm gJ_80 ge gk gf gs gg gr RN a0  uq  k_a0) (cwV 0 hts gu_X10_swapped_X10_returns_277 rfl rfl rfl (by decide +kernel) ⟨Nat.le_of_ble_eq_true rfl, Nat.le_of_ble_eq_true rfl⟩) (tP_V hG hE at_193 rfl) rfl rfl hl.1 rfl (lv_room (Nat.le_of_ble_eq_true rfl)) dX10_swapped_183 ⟨Nat.le_of_ble_eq_true rfl, Nat.le_of_ble_eq_true rfl⟩) hS (wrL_sub (by decide)) (fun gH_198 H locs hp_195 hG hS o_196 => ?_)
                have at_193 := va_at.keptC at_193 o_196 k_a0 rfl
                replace hG : tG D (mF cI cL cC gC gE gW gA gT gI gS gM K F S N gH_198 gJ_80 ge gk gf gs gg gr RN) t H := hG
                have hp_195 : gH_198 = gJ_80 := hp_195
                have p_199 := hp_195
                refine lv_iload_n hx hb dX10_swapped_186 rfl (lv_at hl 6 rfl) ?_
                refine lv_if_ne (tgt := 196) hx hb dX10_swapped_187 (by decide) (fun c_200 => ?_) (fun c_200 => ?_)
                · skip
                  have c_200 : a3.toInt ≠ 0 := q_ne c_200
                  refine lv_pc (pc2 := 196) rfl ?_
                  refine lv_lload hx hb dX10_swapped_196 (lv_at hl 1 rfl) ?_
                  exact tx_lret (z := (gH_198, gJ_80)) hx hb hr hlk hG hS ⟨(by show 0 ≤ gH_198; omega), (by show gH_198 ≤ 96; omega)⟩ dX10_swapped_198
                · skip
                  have c_200 : a3.toInt = 0 := q_eq c_200
                  refine lv_iload hx hb dX10_swapped_190 (lv_at hl 2 rfl) ?_
                  refine lv_i2l (v := yf.toInt64) hx hb dX10_swapped_192 rfl ?_
                  refine lv_goto (tgt := 198) hx hb dX10_swapped_193 (by decide) ?_
                  exact tx_lret (z := (gH_198, gJ_80)) hx hb hr hlk hG hS ⟨(by show 0 ≤ gH_198; omega), (by show gH_198 ≤ 96; omega)⟩ dX10_swapped_198
              have lp144 : ∀ (kk144 : Nat) (yh : Int32) (ys : Int64) (yf : Int32) (hm : Int) (H1 : Heap) (locs1 : List Loc) (ls1 : Array Slot), a2.toInt - yh.toInt ≤ (kk144 : Int) → (0 ≤ yh.toInt) → (yh.toInt ≤ a2.toInt) → (hm = yh.toInt) → tG D (mF cI cL cC gC gE gW gA gT gI gS gM K F S N hm gJ_80 ge gk gf gs gg gr RN) t H1 → tF t wSw s.heap H1 locs1 → lv_has ls1 8 [(7, .int yh), (5, .long ys), (4, .int yf), (0, .ref a0), (1, .int a1), (2, .int a2), (3, .int a3)] → WW144 H1 locs1 (F0 m 116 ls1 []) := by
                intro kk144
                induction kk144 with
                | zero =>
                  intro yh ys yf hm H locs ls hk144 v144_0 v144_1 v144_2 hG hS hl
                  refine (hWW144 _ _ _).mpr ?_
                  refine lv_iload hx hb dX10_swapped_116 (lv_at hl 0 rfl) ?_
                  refine lv_iload_n hx hb dX10_swapped_118 rfl (lv_at hl 5 rfl) ?_
                  refine lv_pc (pc2 := 119) rfl ?_
                  refine lv_icmp_ge (tgt := 182) hx hb dX10_swapped_119 (by decide) (fun c_201 => ?_) (fun c_201 => ?_)
                  · skip
                    have c_201 : a2.toInt ≤ yh.toInt := q_le c_201
                    exact (hWW144 _ _ _).mp (kx144 yh ys yf hm H locs ls v144_0 v144_1 v144_2 hG hS (lv_sub hl [0, 1, 2, 3, 4, 5, 6] rfl))
                  · skip
                    have c_201 : yh.toInt < a2.toInt := q_nle c_201
                    exfalso; omega
                | succ kk144 ih144 =>
                  intro yh ys yf hm H locs ls hk144 v144_0 v144_1 v144_2 hG hS hl
                  refine (hWW144 _ _ _).mpr ?_
                  refine lv_iload hx hb dX10_swapped_116 (lv_at hl 0 rfl) ?_
                  refine lv_iload_n hx hb dX10_swapped_118 rfl (lv_at hl 5 rfl) ?_
                  refine lv_icmp_ge (tgt := 182) hx hb dX10_swapped_119 (by decide) (fun c_202 => ?_) (fun c_202 => ?_)
                  · skip
                    have c_202 : a2.toInt ≤ yh.toInt := q_le c_202
                    exact (hWW144 _ _ _).mp (kx144 yh ys yf hm H locs ls v144_0 v144_1 v144_2 hG hS (lv_sub hl [0, 1, 2, 3, 4, 5, 6] rfl))
                  · skip
                    have c_202 : yh.toInt < a2.toInt := q_nle c_202
                    refine lv_aload_n hx hb dX10_swapped_122 rfl (lv_at hl 3 rfl) ?_
                    refine lv_iconst (v := 2) hx hb dX10_swapped_123 (by decide) ?_
                    refine lv_iconst (v := 0) hx hb dX10_swapped_124 (by decide) ?_
                    obtain ⟨r_203, v_205, r_206, r_208, r_210, r_212, r_214, r_216, r_218, r_220, r_222, r_224, r_226, r_228, r_230, r_232, r_234, r_236, r_238, r_240, r_242, r_244, r_246, v_248, r_249, at_251, h_204, h_207, h_209, h_211, h_213, h_215, h_217, h_219, h_221, h_223, h_225, h_227, h_229, h_231, h_233, h_235, h_237, h_239, h_241, h_243, h_245, h_247, h_250⟩ := mF_o40 hG k_a0
                    refine tx_callv (W.runV (As := [.int 2, .int 0]) (rest := []) ⟨hx, hb, hml, hown, hts⟩ (m_X10_goes l D t cI cL cC gC gE gW gA gT gI gS gM K F S N hm gJ_80 ge gk gf gs gg gr RN a0 2 0 80 uq (by omega) (by omega) (by omega) (by omega) (by omega) okS (by omega) (by omega) (by omega) (by omega) k_a0) (cwV 2 hts gu_X10_swapped_X10_goes_231 rfl rfl rfl (by decide +kernel) ⟨Nat.le_of_ble_eq_true rfl, Nat.le_of_ble_eq_true rfl⟩) (tP_V hG hE at_251 rfl) rfl rfl hl.1 rfl (lv_room (Nat.le_of_ble_eq_true rfl)) dX10_swapped_125 ⟨Nat.le_of_ble_eq_true rfl, Nat.le_of_ble_eq_true rfl⟩) hS (wrL_sub (by decide)) (fun gH_256 H locs hp_253 hG hS o_254 => ?_)
                    have at_251 := va_at.keptC at_251 o_254 k_a0 rfl
                    replace hG : tG D (mF cI cL cC gC gE gW gA gT gI gS gM K F S N gH_256 gJ_80 ge gk gf gs gg gr RN) t H := hG
                    have hp_253 : gH_256 = hm + 1 := hp_253
                    have p_257 := hp_253
                    refine lv_pc (pc2 := 128) rfl ?_
                    refine lv_iload hx hb dX10_swapped_128 (lv_at hl 2 rfl) ?_
                    refine lv_if_ge (tgt := 154) hx hb dX10_swapped_130 (by decide) (fun c_258 => ?_) (fun c_258 => ?_)
                    · skip
                      have c_258 : 0 ≤ yf.toInt := q_le c_258
                      refine lv_iload hx hb dX10_swapped_154 (lv_at hl 2 rfl) ?_
                      refine lv_istore (lv' := [(4, .int yf), (7, .int yh), (5, .long ys), (0, .ref a0), (1, .int a1), (2, .int a2), (3, .int a3)]) hx hb dX10_swapped_156 hl (by decide) rfl (fun ls hl => ?_)
                      refine lv_lload hx hb dX10_swapped_158 (lv_at hl 2 rfl) ?_
                      refine lv_aload_n hx hb dX10_swapped_160 rfl (lv_at hl 3 rfl) ?_
                      refine lv_iload_n hx hb dX10_swapped_161 rfl (lv_at hl 4 rfl) ?_
                      refine ty_calll (W.runV (As := [.int a1]) (rest := [.long ys]) ⟨hx, hb, hml, hown, hts⟩ (m_X10_reading l D t cI cL cC gC gE gW gA gT gI gS gM K F S N gH_256 gJ_80 ge gk gf gs gg gr RN a0 a1  uq (by omega) (by omega) k_a0) (cwV 1 hts gu_X10_swapped_X10_reading_251 rfl rfl rfl (by decide +kernel) ⟨Nat.le_of_ble_eq_true rfl, Nat.le_of_ble_eq_true rfl⟩) (tP_V hG hE at_251 rfl) rfl rfl hl.1 rfl (lv_room (Nat.le_of_ble_eq_true rfl)) dX10_swapped_162 ⟨Nat.le_of_ble_eq_true rfl, Nat.le_of_ble_eq_true rfl⟩) hS (fun k h => by simp [wr0] at h) (fun z_259 H locs hp_260 hG hS o_261 => ?_)
                      have at_251 := va_at.keptC at_251 o_261 k_a0 rfl
                      refine lv_pc (pc2 := 165) rfl ?_
                      refine lv_aload_n hx hb dX10_swapped_165 rfl (lv_at hl 3 rfl) ?_
                      refine va_get (D := D) (ci := 9) (v := .ref r_249) (C := RX10) (T := TX10) (N := 36) hx hb hts in10 hown hK (va_one at_251) 0 rfl rfl 35 (by decide) (hts (.fieldLink RX10 77 "RiverModelModel" "own" "[J") (List.mem_of_getElem? (i := 25) rfl)) (fun _ h9 => h9) rfl dX10_swapped_166 ?_
                      refine lv_iload hx hb dX10_swapped_169 (lv_at hl 1 rfl) ?_
                      obtain ⟨f_263, at_264⟩ := mF_o63 hG h_250
                      have b_265 : vp_in yh 96 := (q_in (by omega) (by omega))
                      refine va_lald hx hb hK (va_one at_264) 0 1 rfl rfl b_265 dX10_swapped_171 ?_
                      refine lv_topl (fun z_266 e_267 => ?_)
                      refine lv_lsub hx hb dX10_swapped_172 ?_
                      refine lv_topl (fun z_268 e_269 => ?_)
                      refine lv_ladd hx hb dX10_swapped_173 ?_
                      refine lv_topl (fun z_270 e_271 => ?_)
                      refine lv_lstore (lv' := [(5, .long z_270), (4, .int yf), (7, .int yh), (0, .ref a0), (1, .int a1), (2, .int a2), (3, .int a3)]) hx hb dX10_swapped_174 hl (by decide) rfl (fun ls hl => ?_)
                      obtain ⟨x_272, e_273⟩ : ∃ y : Int32, y = yh + Int32.ofInt 1 := ⟨_, rfl⟩
                      have i_x_272 : x_272.toInt = yh.toInt + 1 := by rw [e_273, show Int32.ofInt 1 = 1 by decide]; exact (q_add (by rw [show (1 : Int32).toInt = 1 by decide]; omega) (by rw [show (1 : Int32).toInt = 1 by decide]; omega)).trans (by rw [show (1 : Int32).toInt = 1 by decide])
                      refine lv_iinc (v := x_272) (lv' := [(7, .int x_272), (5, .long z_270), (4, .int yf), (0, .ref a0), (1, .int a1), (2, .int a2), (3, .int a3)]) hx hb dX10_swapped_176 hl (k := 2) rfl e_273.symm (by decide) rfl (fun ls hl => ?_)
                      refine lv_pc (pc2 := 179) rfl ?_
                      refine lv_goto (tgt := 116) hx hb dX10_swapped_179 (by decide) ?_
                      exact (hWW144 _ _ _).mp (ih144 x_272 z_270 yf gH_256 H locs ls (by omega) (by omega) (by omega) (by omega) hG hS (lv_sub hl [0, 1, 2, 3, 4, 5, 6] rfl))
                    · skip
                      have c_258 : yf.toInt < 0 := q_nle c_258
                      refine lv_aload_n hx hb dX10_swapped_133 rfl (lv_at hl 3 rfl) ?_
                      refine lv_iload_n hx hb dX10_swapped_134 rfl (lv_at hl 4 rfl) ?_
                      refine ty_calll (W.runV (As := [.int a1]) (rest := []) ⟨hx, hb, hml, hown, hts⟩ (m_X10_reading l D t cI cL cC gC gE gW gA gT gI gS gM K F S N gH_256 gJ_80 ge gk gf gs gg gr RN a0 a1  uq (by omega) (by omega) k_a0) (cwV 1 hts gu_X10_swapped_X10_reading_251 rfl rfl rfl (by decide +kernel) ⟨Nat.le_of_ble_eq_true rfl, Nat.le_of_ble_eq_true rfl⟩) (tP_V hG hE at_251 rfl) rfl rfl hl.1 rfl (lv_room (Nat.le_of_ble_eq_true rfl)) dX10_swapped_135 ⟨Nat.le_of_ble_eq_true rfl, Nat.le_of_ble_eq_true rfl⟩) hS (fun k h => by simp [wr0] at h) (fun z_274 H locs hp_275 hG hS o_276 => ?_)
                      have at_251 := va_at.keptC at_251 o_276 k_a0 rfl
                      refine lv_aload_n hx hb dX10_swapped_138 rfl (lv_at hl 3 rfl) ?_
                      refine va_get (D := D) (ci := 9) (v := .ref r_249) (C := RX10) (T := TX10) (N := 36) hx hb hts in10 hown hK (va_one at_251) 0 rfl rfl 35 (by decide) (hts (.fieldLink RX10 77 "RiverModelModel" "own" "[J") (List.mem_of_getElem? (i := 25) rfl)) (fun _ h9 => h9) rfl dX10_swapped_139 ?_
                      refine lv_iload hx hb dX10_swapped_142 (lv_at hl 0 rfl) ?_
                      obtain ⟨f_278, at_279⟩ := mF_o63 hG h_250
                      have b_280 : vp_in yh 96 := (q_in (by omega) (by omega))
                      refine va_lald hx hb hK (va_one at_279) 0 1 rfl rfl b_280 dX10_swapped_144 ?_
                      refine lv_topl (fun z_281 e_282 => ?_)
                      refine lv_pc (pc2 := 145) rfl ?_
                      refine W.lcmp hx hb dX10_swapped_145 ?_
                      refine lv_if_eq (tgt := 154) hx hb dX10_swapped_146 (by decide) (fun c_283 => ?_) (fun c_283 => ?_)
                      · skip
                        have c_283 : z_274.toInt = z_281.toInt := q_cmp_eq c_283
                        refine lv_iload hx hb dX10_swapped_154 (lv_at hl 2 rfl) ?_
                        refine lv_istore (lv' := [(4, .int yf), (7, .int yh), (5, .long ys), (0, .ref a0), (1, .int a1), (2, .int a2), (3, .int a3)]) hx hb dX10_swapped_156 hl (by decide) rfl (fun ls hl => ?_)
                        refine lv_lload hx hb dX10_swapped_158 (lv_at hl 2 rfl) ?_
                        refine lv_aload_n hx hb dX10_swapped_160 rfl (lv_at hl 3 rfl) ?_
                        refine lv_iload_n hx hb dX10_swapped_161 rfl (lv_at hl 4 rfl) ?_
                        refine ty_calll (W.runV (As := [.int a1]) (rest := [.long ys]) ⟨hx, hb, hml, hown, hts⟩ (m_X10_reading l D t cI cL cC gC gE gW gA gT gI gS gM K F S N gH_256 gJ_80 ge gk gf gs gg gr RN a0 a1  uq (by omega) (by omega) k_a0) (cwV 1 hts gu_X10_swapped_X10_reading_251 rfl rfl rfl (by decide +kernel) ⟨Nat.le_of_ble_eq_true rfl, Nat.le_of_ble_eq_true rfl⟩) (tP_V hG hE at_251 rfl) rfl rfl hl.1 rfl (lv_room (Nat.le_of_ble_eq_true rfl)) dX10_swapped_162 ⟨Nat.le_of_ble_eq_true rfl, Nat.le_of_ble_eq_true rfl⟩) hS (fun k h => by simp [wr0] at h) (fun z_284 H locs hp_285 hG hS o_286 => ?_)
                        have at_251 := va_at.keptC at_251 o_286 k_a0 rfl
                        have at_279 := va_at.keptC at_279 o_286 h_250 rfl
                        refine lv_pc (pc2 := 165) rfl ?_
                        refine lv_aload_n hx hb dX10_swapped_165 rfl (lv_at hl 3 rfl) ?_
                        refine va_get (D := D) (ci := 9) (v := .ref r_249) (C := RX10) (T := TX10) (N := 36) hx hb hts in10 hown hK (va_one at_251) 0 rfl rfl 35 (by decide) (hts (.fieldLink RX10 77 "RiverModelModel" "own" "[J") (List.mem_of_getElem? (i := 25) rfl)) (fun _ h9 => h9) rfl dX10_swapped_166 ?_
                        refine lv_iload hx hb dX10_swapped_169 (lv_at hl 1 rfl) ?_
                        have b_288 : vp_in yh 96 := (q_in (by omega) (by omega))
                        refine va_lald hx hb hK (va_one at_279) 0 1 rfl rfl b_288 dX10_swapped_171 ?_
                        refine lv_setl (y := z_281) e_282.symm ?_
                        refine lv_lsub hx hb dX10_swapped_172 ?_
                        refine lv_topl (fun z_289 e_290 => ?_)
                        refine lv_ladd hx hb dX10_swapped_173 ?_
                        refine lv_topl (fun z_291 e_292 => ?_)
                        refine lv_lstore (lv' := [(5, .long z_291), (4, .int yf), (7, .int yh), (0, .ref a0), (1, .int a1), (2, .int a2), (3, .int a3)]) hx hb dX10_swapped_174 hl (by decide) rfl (fun ls hl => ?_)
                        obtain ⟨x_293, e_294⟩ : ∃ y : Int32, y = yh + Int32.ofInt 1 := ⟨_, rfl⟩
                        have i_x_293 : x_293.toInt = yh.toInt + 1 := by rw [e_294, show Int32.ofInt 1 = 1 by decide]; exact (q_add (by rw [show (1 : Int32).toInt = 1 by decide]; omega) (by rw [show (1 : Int32).toInt = 1 by decide]; omega)).trans (by rw [show (1 : Int32).toInt = 1 by decide])
                        refine lv_iinc (v := x_293) (lv' := [(7, .int x_293), (5, .long z_291), (4, .int yf), (0, .ref a0), (1, .int a1), (2, .int a2), (3, .int a3)]) hx hb dX10_swapped_176 hl (k := 2) rfl e_294.symm (by decide) rfl (fun ls hl => ?_)
                        refine lv_pc (pc2 := 179) rfl ?_
                        refine lv_goto (tgt := 116) hx hb dX10_swapped_179 (by decide) ?_
                        exact (hWW144 _ _ _).mp (ih144 x_293 z_291 yf gH_256 H locs ls (by omega) (by omega) (by omega) (by omega) hG hS (lv_sub hl [0, 1, 2, 3, 4, 5, 6] rfl))
                      · skip
                        have c_283 : z_274.toInt ≠ z_281.toInt := q_cmp_ne c_283
                        refine lv_iload hx hb dX10_swapped_149 (lv_at hl 0 rfl) ?_
                        refine lv_goto (tgt := 156) hx hb dX10_swapped_151 (by decide) ?_
                        refine lv_istore (lv' := [(4, .int yh), (7, .int yh), (5, .long ys), (0, .ref a0), (1, .int a1), (2, .int a2), (3, .int a3)]) hx hb dX10_swapped_156 hl (by decide) rfl (fun ls hl => ?_)
                        refine lv_lload hx hb dX10_swapped_158 (lv_at hl 2 rfl) ?_
                        refine lv_aload_n hx hb dX10_swapped_160 rfl (lv_at hl 3 rfl) ?_
                        refine lv_iload_n hx hb dX10_swapped_161 rfl (lv_at hl 4 rfl) ?_
                        refine ty_calll (W.runV (As := [.int a1]) (rest := [.long ys]) ⟨hx, hb, hml, hown, hts⟩ (m_X10_reading l D t cI cL cC gC gE gW gA gT gI gS gM K F S N gH_256 gJ_80 ge gk gf gs gg gr RN a0 a1  uq (by omega) (by omega) k_a0) (cwV 1 hts gu_X10_swapped_X10_reading_251 rfl rfl rfl (by decide +kernel) ⟨Nat.le_of_ble_eq_true rfl, Nat.le_of_ble_eq_true rfl⟩) (tP_V hG hE at_251 rfl) rfl rfl hl.1 rfl (lv_room (Nat.le_of_ble_eq_true rfl)) dX10_swapped_162 ⟨Nat.le_of_ble_eq_true rfl, Nat.le_of_ble_eq_true rfl⟩) hS (fun k h => by simp [wr0] at h) (fun z_295 H locs hp_296 hG hS o_297 => ?_)
                        have at_251 := va_at.keptC at_251 o_297 k_a0 rfl
                        have at_279 := va_at.keptC at_279 o_297 h_250 rfl
                        refine lv_pc (pc2 := 165) rfl ?_
                        refine lv_aload_n hx hb dX10_swapped_165 rfl (lv_at hl 3 rfl) ?_
                        refine va_get (D := D) (ci := 9) (v := .ref r_249) (C := RX10) (T := TX10) (N := 36) hx hb hts in10 hown hK (va_one at_251) 0 rfl rfl 35 (by decide) (hts (.fieldLink RX10 77 "RiverModelModel" "own" "[J") (List.mem_of_getElem? (i := 25) rfl)) (fun _ h9 => h9) rfl dX10_swapped_166 ?_
                        refine lv_iload hx hb dX10_swapped_169 (lv_at hl 1 rfl) ?_
                        have b_299 : vp_in yh 96 := (q_in (by omega) (by omega))
                        refine va_lald hx hb hK (va_one at_279) 0 1 rfl rfl b_299 dX10_swapped_171 ?_
                        refine lv_setl (y := z_281) e_282.symm ?_
                        refine lv_lsub hx hb dX10_swapped_172 ?_
                        refine lv_topl (fun z_300 e_301 => ?_)
                        refine lv_ladd hx hb dX10_swapped_173 ?_
                        refine lv_topl (fun z_302 e_303 => ?_)
                        refine lv_lstore (lv' := [(5, .long z_302), (4, .int yh), (7, .int yh), (0, .ref a0), (1, .int a1), (2, .int a2), (3, .int a3)]) hx hb dX10_swapped_174 hl (by decide) rfl (fun ls hl => ?_)
                        obtain ⟨x_304, e_305⟩ : ∃ y : Int32, y = yh + Int32.ofInt 1 := ⟨_, rfl⟩
                        have i_x_304 : x_304.toInt = yh.toInt + 1 := by rw [e_305, show Int32.ofInt 1 = 1 by decide]; exact (q_add (by rw [show (1 : Int32).toInt = 1 by decide]; omega) (by rw [show (1 : Int32).toInt = 1 by decide]; omega)).trans (by rw [show (1 : Int32).toInt = 1 by decide])
                        refine lv_iinc (v := x_304) (lv' := [(7, .int x_304), (5, .long z_302), (4, .int yh), (0, .ref a0), (1, .int a1), (2, .int a2), (3, .int a3)]) hx hb dX10_swapped_176 hl (k := 2) rfl e_305.symm (by decide) rfl (fun ls hl => ?_)
                        refine lv_pc (pc2 := 179) rfl ?_
                        refine lv_goto (tgt := 116) hx hb dX10_swapped_179 (by decide) ?_
                        exact (hWW144 _ _ _).mp (ih144 x_304 z_302 yh gH_256 H locs ls (by omega) (by omega) (by omega) (by omega) hG hS (lv_sub hl [0, 1, 2, 3, 4, 5, 6] rfl))
              have zi_m4 : ((-4) : Int32).toInt = (-4) := by decide
              exact lp144 (a2.toInt - (0 : Int32).toInt : Int).toNat 0 0 (-4) gH_142 H locs ls (by omega) (by omega) (by omega) (by omega) hG hS (lv_sub hl [0, 1, 2, 3, 4, 5, 6] rfl)
            have lp88 : ∀ (kk88 : Nat) (yh : Int32) (hm : Int) (H1 : Heap) (locs1 : List Loc) (ls1 : Array Slot), a2.toInt - yh.toInt ≤ (kk88 : Int) → (0 ≤ yh.toInt) → (yh.toInt ≤ a2.toInt) → (hm = yh.toInt) → tG D (mF cI cL cC gC gE gW gA gT gI gS gM K F S N hm gJ_80 ge gk gf gs gg gr RN) t H1 → tF t wSw s.heap H1 locs1 → lv_has ls1 8 [(4, .int yh), (0, .ref a0), (1, .int a1), (2, .int a2), (3, .int a3)] → WW88 H1 locs1 (F0 m 70 ls1 []) := by
              intro kk88
              induction kk88 with
              | zero =>
                intro yh hm H locs ls hk88 v88_0 v88_1 v88_2 hG hS hl
                refine (hWW88 _ _ _).mpr ?_
                refine lv_iload hx hb dX10_swapped_70 (lv_at hl 0 rfl) ?_
                refine lv_iload_n hx hb dX10_swapped_72 rfl (lv_at hl 3 rfl) ?_
                refine lv_icmp_ge (tgt := 100) hx hb dX10_swapped_73 (by decide) (fun c_306 => ?_) (fun c_306 => ?_)
                · skip
                  have c_306 : a2.toInt ≤ yh.toInt := q_le c_306
                  exact (hWW88 _ _ _).mp (kx88 yh hm H locs ls v88_0 v88_1 v88_2 hG hS (lv_sub hl [0, 1, 2, 3, 4] rfl))
                · skip
                  have c_306 : yh.toInt < a2.toInt := q_nle c_306
                  exfalso; omega
              | succ kk88 ih88 =>
                intro yh hm H locs ls hk88 v88_0 v88_1 v88_2 hG hS hl
                refine (hWW88 _ _ _).mpr ?_
                refine lv_iload hx hb dX10_swapped_70 (lv_at hl 0 rfl) ?_
                refine lv_iload_n hx hb dX10_swapped_72 rfl (lv_at hl 3 rfl) ?_
                refine lv_icmp_ge (tgt := 100) hx hb dX10_swapped_73 (by decide) (fun c_307 => ?_) (fun c_307 => ?_)
                · skip
                  have c_307 : a2.toInt ≤ yh.toInt := q_le c_307
                  exact (hWW88 _ _ _).mp (kx88 yh hm H locs ls v88_0 v88_1 v88_2 hG hS (lv_sub hl [0, 1, 2, 3, 4] rfl))
                · skip
                  have c_307 : yh.toInt < a2.toInt := q_nle c_307
                  refine lv_aload_n hx hb dX10_swapped_76 rfl (lv_at hl 1 rfl) ?_
                  refine lv_pc (pc2 := 77) rfl ?_
                  refine lv_iconst (v := 0) hx hb dX10_swapped_77 (by decide) ?_
                  refine lv_iconst (v := 0) hx hb dX10_swapped_78 (by decide) ?_
                  obtain ⟨r_308, v_310, r_311, r_313, r_315, r_317, r_319, r_321, r_323, r_325, r_327, r_329, r_331, r_333, r_335, r_337, r_339, r_341, r_343, r_345, r_347, r_349, r_351, v_353, r_354, at_356, h_309, h_312, h_314, h_316, h_318, h_320, h_322, h_324, h_326, h_328, h_330, h_332, h_334, h_336, h_338, h_340, h_342, h_344, h_346, h_348, h_350, h_352, h_355⟩ := mF_o40 hG k_a0
                  refine tx_callv (W.runV (As := [.int 0, .int 0]) (rest := []) ⟨hx, hb, hml, hown, hts⟩ (m_X10_goes l D t cI cL cC gC gE gW gA gT gI gS gM K F S N hm gJ_80 ge gk gf gs gg gr RN a0 0 0 0 uq (by omega) (by omega) (by omega) (by omega) (by omega) hO0 (by omega) (by omega) (by omega) (by omega) k_a0) (cwV 2 hts gu_X10_swapped_X10_goes_231 rfl rfl rfl (by decide +kernel) ⟨Nat.le_of_ble_eq_true rfl, Nat.le_of_ble_eq_true rfl⟩) (tP_V hG hE at_356 rfl) rfl rfl hl.1 rfl (lv_room (Nat.le_of_ble_eq_true rfl)) dX10_swapped_79 ⟨Nat.le_of_ble_eq_true rfl, Nat.le_of_ble_eq_true rfl⟩) hS (wrL_sub (by decide)) (fun gH_361 H locs hp_358 hG hS o_359 => ?_)
                  have at_356 := va_at.keptC at_356 o_359 k_a0 rfl
                  replace hG : tG D (mF cI cL cC gC gE gW gA gT gI gS gM K F S N gH_361 gJ_80 ge gk gf gs gg gr RN) t H := hG
                  have hp_358 : gH_361 = hm + 1 := hp_358
                  have p_362 := hp_358
                  refine lv_aload_n hx hb dX10_swapped_82 rfl (lv_at hl 1 rfl) ?_
                  refine va_get (D := D) (ci := 9) (v := .ref r_354) (C := RX10) (T := TX10) (N := 36) hx hb hts in10 hown hK (va_one at_356) 0 rfl rfl 35 (by decide) (hts (.fieldLink RX10 77 "RiverModelModel" "own" "[J") (List.mem_of_getElem? (i := 25) rfl)) (fun _ h9 => h9) rfl dX10_swapped_83 ?_
                  refine lv_iload hx hb dX10_swapped_86 (lv_at hl 0 rfl) ?_
                  refine lv_aload_n hx hb dX10_swapped_88 rfl (lv_at hl 1 rfl) ?_
                  refine lv_iload_n hx hb dX10_swapped_89 rfl (lv_at hl 2 rfl) ?_
                  refine lv_pc (pc2 := 90) rfl ?_
                  refine ty_calll (W.runV (As := [.int a1]) (rest := [.int yh, .ref r_354]) ⟨hx, hb, hml, hown, hts⟩ (m_X10_reading l D t cI cL cC gC gE gW gA gT gI gS gM K F S N gH_361 gJ_80 ge gk gf gs gg gr RN a0 a1  uq (by omega) (by omega) k_a0) (cwV 1 hts gu_X10_swapped_X10_reading_251 rfl rfl rfl (by decide +kernel) ⟨Nat.le_of_ble_eq_true rfl, Nat.le_of_ble_eq_true rfl⟩) (tP_V hG hE at_356 rfl) rfl rfl hl.1 rfl (lv_room (Nat.le_of_ble_eq_true rfl)) dX10_swapped_90 ⟨Nat.le_of_ble_eq_true rfl, Nat.le_of_ble_eq_true rfl⟩) hS (fun k h => by simp [wr0] at h) (fun z_363 H locs hp_364 hG hS o_365 => ?_)
                  have at_356 := va_at.keptC at_356 o_365 k_a0 rfl
                  obtain ⟨f_367, at_368⟩ := mF_o63 hG h_355
                  have b_369 : vp_in yh 96 := (q_in (by omega) (by omega))
                  refine ty_last (F2 := (mF cI cL cC gC gE gW gA gT gI gS gM K F S N gH_361 gJ_80 ge gk gf gs gg gr RN)) hx hb hK hG hS 1 at_368 (by rw [h_355]; rfl) rfl b_369 (by rw [h_355]; exact ⟨_, rfl⟩) tFF dX10_swapped_93 (fun H locs hG hS at_370 o_371 => ?_)
                  have at_356 := va_at.keptK at_356 o_371 h_355 k_a0 rfl
                  obtain ⟨x_372, e_373⟩ : ∃ y : Int32, y = yh + Int32.ofInt 1 := ⟨_, rfl⟩
                  have i_x_372 : x_372.toInt = yh.toInt + 1 := by rw [e_373, show Int32.ofInt 1 = 1 by decide]; exact (q_add (by rw [show (1 : Int32).toInt = 1 by decide]; omega) (by rw [show (1 : Int32).toInt = 1 by decide]; omega)).trans (by rw [show (1 : Int32).toInt = 1 by decide])
                  refine lv_iinc (v := x_372) (lv' := [(4, .int x_372), (0, .ref a0), (1, .int a1), (2, .int a2), (3, .int a3)]) hx hb dX10_swapped_94 hl (k := 0) rfl e_373.symm (by decide) rfl (fun ls hl => ?_)
                  refine lv_goto (tgt := 70) hx hb dX10_swapped_97 (by decide) ?_
                  exact (hWW88 _ _ _).mp (ih88 x_372 gH_361 H locs ls (by omega) (by omega) (by omega) (by omega) hG hS (lv_sub hl [0, 1, 2, 3, 4] rfl))
            exact lp88 (a2.toInt - (0 : Int32).toInt : Int).toNat 0 gH_86 H locs ls (by omega) (by omega) (by omega) (by omega) hG hS (lv_sub hl [0, 1, 2, 3, 4] rfl)
          · skip
            have c_75 : gS.toInt = 0 := q_eq c_75
            refine lv_ldc2 hx hb hown (hts (.constantLong RX10 238 (-2)) (List.mem_of_getElem? (i := 26) rfl)) dX10_swapped_53 ?_
            have zl_m2 : ((-2) : Int64).toInt = (-2) := by decide
            exact tx_lret (z := (gH, gJ)) hx hb hr hlk hG hS ⟨(by show 0 ≤ gH; omega), (by show gH ≤ 96; omega)⟩ dX10_swapped_56
        · skip
          refine lv_if_eq (tgt := 53) hx hb dX10_swapped_43 (by decide) (fun _ => ?_) (fun q => absurd (by decide) q)
          refine lv_ldc2 hx hb hown (hts (.constantLong RX10 238 (-2)) (List.mem_of_getElem? (i := 26) rfl)) dX10_swapped_53 ?_
          refine lv_pc (pc2 := 56) rfl ?_
          have zl_m2 : ((-2) : Int64).toInt = (-2) := by decide
          exact tx_lret (z := (gH, gJ)) hx hb hr hlk hG hS ⟨(by show 0 ≤ gH; omega), (by show gH ≤ 96; omega)⟩ dX10_swapped_56
      · skip
        refine lv_if_ne (tgt := 38) hx hb dX10_swapped_31 (by decide) (fun q => absurd rfl q) (fun _ => ?_)
        refine lv_ldc2 hx hb hown (hts (.constantLong RX10 236 (-1)) (List.mem_of_getElem? (i := 27) rfl)) dX10_swapped_34 ?_
        have zl_m1 : ((-1) : Int64).toInt = (-1) := by decide
        exact tx_lret (z := (gH, gJ)) hx hb hr hlk hG hS ⟨(by show 0 ≤ gH; omega), (by show gH ≤ 96; omega)⟩ dX10_swapped_37
    · skip
      refine lv_if_eq (tgt := 34) hx hb dX10_swapped_21 (by decide) (fun _ => ?_) (fun q => absurd (by decide) q)
      refine lv_ldc2 hx hb hown (hts (.constantLong RX10 236 (-1)) (List.mem_of_getElem? (i := 27) rfl)) dX10_swapped_34 ?_
      have zl_m1 : ((-1) : Int64).toInt = (-1) := by decide
      exact tx_lret (z := (gH, gJ)) hx hb hr hlk hG hS ⟨(by show 0 ≤ gH; omega), (by show gH ≤ 96; omega)⟩ dX10_swapped_37
  · skip
    refine lv_if_eq (tgt := 34) hx hb dX10_swapped_9 (by decide) (fun _ => ?_) (fun q => absurd (by decide) q)
    refine lv_pc (pc2 := 34) rfl ?_
    refine lv_ldc2 hx hb hown (hts (.constantLong RX10 236 (-1)) (List.mem_of_getElem? (i := 27) rfl)) dX10_swapped_34 ?_
    have zl_m1 : ((-1) : Int64).toInt = (-1) := by decide
    exact tx_lret (z := (gH, gJ)) hx hb hr hlk hG hS ⟨(by show 0 ≤ gH; omega), (by show gH ≤ 96; omega)⟩ dX10_swapped_37
