theorem dX10_in_0 : decode cX10_in 0 = .ok (.lload_n 0, 1) := by decide +kernel
theorem dX10_in_1 : decode cX10_in 1 = .ok (.lload_n 2, 1) := by decide +kernel
theorem dX10_in_2 : decode cX10_in 2 = .ok (.lcmp, 1) := by decide +kernel
theorem dX10_in_3 : decode cX10_in 3 = .ok (.ifCond .lt 14, 3) := by decide +kernel
theorem dX10_in_6 : decode cX10_in 6 = .ok (.lload_n 0, 1) := by decide +kernel
theorem dX10_in_7 : decode cX10_in 7 = .ok (.lload 4, 2) := by decide +kernel
theorem dX10_in_9 : decode cX10_in 9 = .ok (.lcmp, 1) := by decide +kernel
theorem dX10_in_10 : decode cX10_in 10 = .ok (.ifCond .gt 7, 3) := by decide +kernel
theorem dX10_in_13 : decode cX10_in 13 = .ok (.iconst 1, 1) := by decide +kernel
theorem dX10_in_14 : decode cX10_in 14 = .ok (.goto 4, 3) := by decide +kernel
theorem dX10_in_17 : decode cX10_in 17 = .ok (.iconst 0, 1) := by decide +kernel
theorem dX10_in_18 : decode cX10_in 18 = .ok (.ireturn, 1) := by decide +kernel
theorem dX10_byteAt_0 : decode cX10_byteAt 0 = .ok (.iload_n 1, 1) := by decide +kernel
theorem dX10_byteAt_1 : decode cX10_byteAt 1 = .ok (.aload_n 0, 1) := by decide +kernel
theorem dX10_byteAt_2 : decode cX10_byteAt 2 = .ok (.getfield 89, 3) := by decide +kernel
theorem dX10_byteAt_5 : decode cX10_byteAt 5 = .ok (.if_icmp .ge 12, 3) := by decide +kernel
theorem dX10_byteAt_8 : decode cX10_byteAt 8 = .ok (.aload_n 0, 1) := by decide +kernel
theorem dX10_byteAt_9 : decode cX10_byteAt 9 = .ok (.getfield 7, 3) := by decide +kernel
theorem dX10_byteAt_12 : decode cX10_byteAt 12 = .ok (.iload_n 1, 1) := by decide +kernel
theorem dX10_byteAt_13 : decode cX10_byteAt 13 = .ok (.iaload, 1) := by decide +kernel
theorem dX10_byteAt_14 : decode cX10_byteAt 14 = .ok (.goto 4, 3) := by decide +kernel
theorem dX10_byteAt_17 : decode cX10_byteAt 17 = .ok (.iconst (-1), 1) := by decide +kernel
theorem dX10_byteAt_18 : decode cX10_byteAt 18 = .ok (.ireturn, 1) := by decide +kernel
theorem dX10_isName_0 : decode cX10_isName 0 = .ok (.iload_n 0, 1) := by decide +kernel
theorem dX10_isName_1 : decode cX10_isName 1 = .ok (.i2l, 1) := by decide +kernel
theorem dX10_isName_2 : decode cX10_isName 2 = .ok (.ldc2_w 95, 3) := by decide +kernel
theorem dX10_isName_5 : decode cX10_isName 5 = .ok (.ldc2_w 97, 3) := by decide +kernel
theorem dX10_isName_8 : decode cX10_isName 8 = .ok (.invokestatic 85, 3) := by decide +kernel
theorem dX10_isName_11 : decode cX10_isName 11 = .ok (.ireturn, 1) := by decide +kernel
theorem dX10_shape_0 : decode cX10_shape 0 = .ok (.iload_n 0, 1) := by decide +kernel
theorem dX10_shape_1 : decode cX10_shape 1 = .ok (.tableswitch 121 101 122 #[115, 121, 112, 121, 121, 121, 121, 106, 112, 115, 109, 121, 121, 115, 103, 112, 121, 121, 121, 121, 121, 118], 103) := by decide +kernel
theorem dX10_shape_104 : decode cX10_shape 104 = .ok (.bipush 12, 2) := by decide +kernel
theorem dX10_shape_106 : decode cX10_shape 106 = .ok (.ireturn, 1) := by decide +kernel
theorem dX10_shape_107 : decode cX10_shape 107 = .ok (.bipush 23, 2) := by decide +kernel
theorem dX10_shape_109 : decode cX10_shape 109 = .ok (.ireturn, 1) := by decide +kernel
theorem dX10_shape_110 : decode cX10_shape 110 = .ok (.bipush 20, 2) := by decide +kernel
theorem dX10_shape_112 : decode cX10_shape 112 = .ok (.ireturn, 1) := by decide +kernel
theorem dX10_shape_113 : decode cX10_shape 113 = .ok (.bipush 21, 2) := by decide +kernel
theorem dX10_shape_115 : decode cX10_shape 115 = .ok (.ireturn, 1) := by decide +kernel
theorem dX10_shape_116 : decode cX10_shape 116 = .ok (.bipush 11, 2) := by decide +kernel
theorem dX10_shape_118 : decode cX10_shape 118 = .ok (.ireturn, 1) := by decide +kernel
theorem dX10_shape_119 : decode cX10_shape 119 = .ok (.bipush 10, 2) := by decide +kernel
theorem dX10_shape_121 : decode cX10_shape 121 = .ok (.ireturn, 1) := by decide +kernel
theorem dX10_shape_122 : decode cX10_shape 122 = .ok (.iconst (-1), 1) := by decide +kernel
theorem dX10_shape_123 : decode cX10_shape 123 = .ok (.ireturn, 1) := by decide +kernel
theorem dX10_areWell_0 : decode cX10_areWell 0 = .ok (.iload_n 0, 1) := by decide +kernel
theorem dX10_areWell_1 : decode cX10_areWell 1 = .ok (.tableswitch 190 101 116 #[150, 190, 160, 190, 190, 190, 190, 109, 150, 180, 190, 190, 190, 180, 79, 170], 79) := by decide +kernel
theorem dX10_areWell_80 : decode cX10_areWell 80 = .ok (.iload_n 1, 1) := by decide +kernel
theorem dX10_areWell_81 : decode cX10_areWell 81 = .ok (.i2l, 1) := by decide +kernel
theorem dX10_areWell_82 : decode cX10_areWell 82 = .ok (.lconst 0, 1) := by decide +kernel
theorem dX10_areWell_83 : decode cX10_areWell 83 = .ok (.ldc2_w 99, 3) := by decide +kernel
theorem dX10_areWell_86 : decode cX10_areWell 86 = .ok (.invokestatic 85, 3) := by decide +kernel
theorem dX10_areWell_89 : decode cX10_areWell 89 = .ok (.ifCond .eq 19, 3) := by decide +kernel
theorem dX10_areWell_92 : decode cX10_areWell 92 = .ok (.iload_n 2, 1) := by decide +kernel
theorem dX10_areWell_93 : decode cX10_areWell 93 = .ok (.i2l, 1) := by decide +kernel
theorem dX10_areWell_94 : decode cX10_areWell 94 = .ok (.lconst 0, 1) := by decide +kernel
theorem dX10_areWell_95 : decode cX10_areWell 95 = .ok (.ldc2_w 99, 3) := by decide +kernel
theorem dX10_areWell_98 : decode cX10_areWell 98 = .ok (.invokestatic 85, 3) := by decide +kernel
theorem dX10_areWell_101 : decode cX10_areWell 101 = .ok (.ifCond .eq 7, 3) := by decide +kernel
theorem dX10_areWell_104 : decode cX10_areWell 104 = .ok (.iconst 1, 1) := by decide +kernel
theorem dX10_areWell_105 : decode cX10_areWell 105 = .ok (.goto 4, 3) := by decide +kernel
theorem dX10_areWell_108 : decode cX10_areWell 108 = .ok (.iconst 0, 1) := by decide +kernel
theorem dX10_areWell_109 : decode cX10_areWell 109 = .ok (.ireturn, 1) := by decide +kernel
theorem dX10_areWell_110 : decode cX10_areWell 110 = .ok (.iload_n 2, 1) := by decide +kernel
theorem dX10_areWell_111 : decode cX10_areWell 111 = .ok (.i2l, 1) := by decide +kernel
theorem dX10_areWell_112 : decode cX10_areWell 112 = .ok (.lconst 1, 1) := by decide +kernel
theorem dX10_areWell_113 : decode cX10_areWell 113 = .ok (.ldc2_w 101, 3) := by decide +kernel
theorem dX10_areWell_116 : decode cX10_areWell 116 = .ok (.invokestatic 85, 3) := by decide +kernel
theorem dX10_areWell_119 : decode cX10_areWell 119 = .ok (.ifCond .eq 30, 3) := by decide +kernel
theorem dX10_areWell_122 : decode cX10_areWell 122 = .ok (.iload_n 1, 1) := by decide +kernel
theorem dX10_areWell_123 : decode cX10_areWell 123 = .ok (.i2l, 1) := by decide +kernel
theorem dX10_areWell_124 : decode cX10_areWell 124 = .ok (.lconst 0, 1) := by decide +kernel
theorem dX10_areWell_125 : decode cX10_areWell 125 = .ok (.iload_n 2, 1) := by decide +kernel
theorem dX10_areWell_126 : decode cX10_areWell 126 = .ok (.i2l, 1) := by decide +kernel
theorem dX10_areWell_127 : decode cX10_areWell 127 = .ok (.invokestatic 85, 3) := by decide +kernel
theorem dX10_areWell_130 : decode cX10_areWell 130 = .ok (.ifCond .eq 19, 3) := by decide +kernel
theorem dX10_areWell_133 : decode cX10_areWell 133 = .ok (.iload_n 3, 1) := by decide +kernel
theorem dX10_areWell_134 : decode cX10_areWell 134 = .ok (.i2l, 1) := by decide +kernel
theorem dX10_areWell_135 : decode cX10_areWell 135 = .ok (.lconst 0, 1) := by decide +kernel
theorem dX10_areWell_136 : decode cX10_areWell 136 = .ok (.ldc2_w 99, 3) := by decide +kernel
theorem dX10_areWell_139 : decode cX10_areWell 139 = .ok (.invokestatic 85, 3) := by decide +kernel
theorem dX10_areWell_142 : decode cX10_areWell 142 = .ok (.ifCond .eq 7, 3) := by decide +kernel
theorem dX10_areWell_145 : decode cX10_areWell 145 = .ok (.iconst 1, 1) := by decide +kernel
theorem dX10_areWell_146 : decode cX10_areWell 146 = .ok (.goto 4, 3) := by decide +kernel
theorem dX10_areWell_149 : decode cX10_areWell 149 = .ok (.iconst 0, 1) := by decide +kernel
theorem dX10_areWell_150 : decode cX10_areWell 150 = .ok (.ireturn, 1) := by decide +kernel
theorem dX10_areWell_151 : decode cX10_areWell 151 = .ok (.iload_n 1, 1) := by decide +kernel
theorem dX10_areWell_152 : decode cX10_areWell 152 = .ok (.i2l, 1) := by decide +kernel
theorem dX10_areWell_153 : decode cX10_areWell 153 = .ok (.lconst 0, 1) := by decide +kernel
theorem dX10_areWell_154 : decode cX10_areWell 154 = .ok (.ldc2_w 101, 3) := by decide +kernel
theorem dX10_areWell_157 : decode cX10_areWell 157 = .ok (.invokestatic 85, 3) := by decide +kernel
theorem dX10_areWell_160 : decode cX10_areWell 160 = .ok (.ireturn, 1) := by decide +kernel
theorem dX10_areWell_161 : decode cX10_areWell 161 = .ok (.iload_n 1, 1) := by decide +kernel
theorem dX10_areWell_162 : decode cX10_areWell 162 = .ok (.i2l, 1) := by decide +kernel
theorem dX10_areWell_163 : decode cX10_areWell 163 = .ok (.lconst 0, 1) := by decide +kernel
theorem dX10_areWell_164 : decode cX10_areWell 164 = .ok (.ldc2_w 103, 3) := by decide +kernel
theorem dX10_areWell_167 : decode cX10_areWell 167 = .ok (.invokestatic 85, 3) := by decide +kernel
theorem dX10_areWell_170 : decode cX10_areWell 170 = .ok (.ireturn, 1) := by decide +kernel
theorem dX10_areWell_171 : decode cX10_areWell 171 = .ok (.iload_n 1, 1) := by decide +kernel
theorem dX10_areWell_172 : decode cX10_areWell 172 = .ok (.i2l, 1) := by decide +kernel
theorem dX10_areWell_173 : decode cX10_areWell 173 = .ok (.lconst 1, 1) := by decide +kernel
theorem dX10_areWell_174 : decode cX10_areWell 174 = .ok (.ldc2_w 105, 3) := by decide +kernel
theorem dX10_areWell_177 : decode cX10_areWell 177 = .ok (.invokestatic 85, 3) := by decide +kernel
theorem dX10_areWell_180 : decode cX10_areWell 180 = .ok (.ireturn, 1) := by decide +kernel
theorem dX10_areWell_181 : decode cX10_areWell 181 = .ok (.iload_n 1, 1) := by decide +kernel
theorem dX10_areWell_182 : decode cX10_areWell 182 = .ok (.i2l, 1) := by decide +kernel
theorem dX10_areWell_183 : decode cX10_areWell 183 = .ok (.lconst 0, 1) := by decide +kernel
theorem dX10_areWell_184 : decode cX10_areWell 184 = .ok (.ldc2_w 107, 3) := by decide +kernel
theorem dX10_areWell_187 : decode cX10_areWell 187 = .ok (.invokestatic 85, 3) := by decide +kernel
theorem dX10_areWell_190 : decode cX10_areWell 190 = .ok (.ireturn, 1) := by decide +kernel
theorem dX10_areWell_191 : decode cX10_areWell 191 = .ok (.iconst 1, 1) := by decide +kernel
theorem dX10_areWell_192 : decode cX10_areWell 192 = .ok (.ireturn, 1) := by decide +kernel
theorem dX10_readsNumber_0 : decode cX10_readsNumber 0 = .ok (.aload_n 0, 1) := by decide +kernel
theorem dX10_readsNumber_1 : decode cX10_readsNumber 1 = .ok (.aload_n 0, 1) := by decide +kernel
theorem dX10_readsNumber_2 : decode cX10_readsNumber 2 = .ok (.getfield 109, 3) := by decide +kernel
theorem dX10_readsNumber_5 : decode cX10_readsNumber 5 = .ok (.invokevirtual 112, 3) := by decide +kernel
theorem dX10_readsNumber_8 : decode cX10_readsNumber 8 = .ok (.bipush 44, 2) := by decide +kernel
theorem dX10_readsNumber_10 : decode cX10_readsNumber 10 = .ok (.if_icmp .eq 5, 3) := by decide +kernel
theorem dX10_readsNumber_13 : decode cX10_readsNumber 13 = .ok (.iconst 0, 1) := by decide +kernel
theorem dX10_readsNumber_14 : decode cX10_readsNumber 14 = .ok (.ireturn, 1) := by decide +kernel
theorem dX10_readsNumber_15 : decode cX10_readsNumber 15 = .ok (.aload_n 0, 1) := by decide +kernel
theorem dX10_readsNumber_16 : decode cX10_readsNumber 16 = .ok (.dup, 1) := by decide +kernel
theorem dX10_readsNumber_17 : decode cX10_readsNumber 17 = .ok (.getfield 109, 3) := by decide +kernel
theorem dX10_readsNumber_20 : decode cX10_readsNumber 20 = .ok (.iconst 1, 1) := by decide +kernel
theorem dX10_readsNumber_21 : decode cX10_readsNumber 21 = .ok (.iadd, 1) := by decide +kernel
theorem dX10_readsNumber_22 : decode cX10_readsNumber 22 = .ok (.putfield 109, 3) := by decide +kernel
theorem dX10_readsNumber_25 : decode cX10_readsNumber 25 = .ok (.aload_n 0, 1) := by decide +kernel
theorem dX10_readsNumber_26 : decode cX10_readsNumber 26 = .ok (.iconst 0, 1) := by decide +kernel
theorem dX10_readsNumber_27 : decode cX10_readsNumber 27 = .ok (.putfield 116, 3) := by decide +kernel
theorem dX10_readsNumber_30 : decode cX10_readsNumber 30 = .ok (.iconst 0, 1) := by decide +kernel
theorem dX10_readsNumber_31 : decode cX10_readsNumber 31 = .ok (.istore_n 2, 1) := by decide +kernel
theorem dX10_readsNumber_32 : decode cX10_readsNumber 32 = .ok (.aload_n 0, 1) := by decide +kernel
theorem dX10_readsNumber_33 : decode cX10_readsNumber 33 = .ok (.aload_n 0, 1) := by decide +kernel
theorem dX10_readsNumber_34 : decode cX10_readsNumber 34 = .ok (.getfield 109, 3) := by decide +kernel
theorem dX10_readsNumber_37 : decode cX10_readsNumber 37 = .ok (.invokevirtual 112, 3) := by decide +kernel
theorem dX10_readsNumber_40 : decode cX10_readsNumber 40 = .ok (.i2l, 1) := by decide +kernel
theorem dX10_readsNumber_41 : decode cX10_readsNumber 41 = .ok (.ldc2_w 119, 3) := by decide +kernel
theorem dX10_readsNumber_44 : decode cX10_readsNumber 44 = .ok (.ldc2_w 121, 3) := by decide +kernel
theorem dX10_readsNumber_47 : decode cX10_readsNumber 47 = .ok (.invokestatic 85, 3) := by decide +kernel
theorem dX10_readsNumber_50 : decode cX10_readsNumber 50 = .ok (.ifCond .eq 52, 3) := by decide +kernel
theorem dX10_readsNumber_53 : decode cX10_readsNumber 53 = .ok (.aload_n 0, 1) := by decide +kernel
theorem dX10_readsNumber_54 : decode cX10_readsNumber 54 = .ok (.getfield 116, 3) := by decide +kernel
theorem dX10_readsNumber_57 : decode cX10_readsNumber 57 = .ok (.bipush 8, 2) := by decide +kernel
theorem dX10_readsNumber_59 : decode cX10_readsNumber 59 = .ok (.if_icmp .ge 43, 3) := by decide +kernel
theorem dX10_readsNumber_62 : decode cX10_readsNumber 62 = .ok (.bipush 10, 2) := by decide +kernel
theorem dX10_readsNumber_64 : decode cX10_readsNumber 64 = .ok (.iload_n 2, 1) := by decide +kernel
theorem dX10_readsNumber_65 : decode cX10_readsNumber 65 = .ok (.imul, 1) := by decide +kernel
theorem dX10_readsNumber_66 : decode cX10_readsNumber 66 = .ok (.aload_n 0, 1) := by decide +kernel
theorem dX10_readsNumber_67 : decode cX10_readsNumber 67 = .ok (.aload_n 0, 1) := by decide +kernel
theorem dX10_readsNumber_68 : decode cX10_readsNumber 68 = .ok (.getfield 109, 3) := by decide +kernel
theorem dX10_readsNumber_71 : decode cX10_readsNumber 71 = .ok (.invokevirtual 112, 3) := by decide +kernel
theorem dX10_readsNumber_74 : decode cX10_readsNumber 74 = .ok (.iadd, 1) := by decide +kernel
theorem dX10_readsNumber_75 : decode cX10_readsNumber 75 = .ok (.bipush 48, 2) := by decide +kernel
theorem dX10_readsNumber_77 : decode cX10_readsNumber 77 = .ok (.isub, 1) := by decide +kernel
theorem dX10_readsNumber_78 : decode cX10_readsNumber 78 = .ok (.istore_n 2, 1) := by decide +kernel
theorem dX10_readsNumber_79 : decode cX10_readsNumber 79 = .ok (.aload_n 0, 1) := by decide +kernel
theorem dX10_readsNumber_80 : decode cX10_readsNumber 80 = .ok (.dup, 1) := by decide +kernel
theorem dX10_readsNumber_81 : decode cX10_readsNumber 81 = .ok (.getfield 116, 3) := by decide +kernel
theorem dX10_readsNumber_84 : decode cX10_readsNumber 84 = .ok (.iconst 1, 1) := by decide +kernel
theorem dX10_readsNumber_85 : decode cX10_readsNumber 85 = .ok (.iadd, 1) := by decide +kernel
theorem dX10_readsNumber_86 : decode cX10_readsNumber 86 = .ok (.putfield 116, 3) := by decide +kernel
theorem dX10_readsNumber_89 : decode cX10_readsNumber 89 = .ok (.aload_n 0, 1) := by decide +kernel
theorem dX10_readsNumber_90 : decode cX10_readsNumber 90 = .ok (.dup, 1) := by decide +kernel
theorem dX10_readsNumber_91 : decode cX10_readsNumber 91 = .ok (.getfield 109, 3) := by decide +kernel
theorem dX10_readsNumber_94 : decode cX10_readsNumber 94 = .ok (.iconst 1, 1) := by decide +kernel
theorem dX10_readsNumber_95 : decode cX10_readsNumber 95 = .ok (.iadd, 1) := by decide +kernel
theorem dX10_readsNumber_96 : decode cX10_readsNumber 96 = .ok (.putfield 109, 3) := by decide +kernel
theorem dX10_readsNumber_99 : decode cX10_readsNumber 99 = .ok (.goto (-67), 3) := by decide +kernel
theorem dX10_readsNumber_102 : decode cX10_readsNumber 102 = .ok (.aload_n 0, 1) := by decide +kernel
theorem dX10_readsNumber_103 : decode cX10_readsNumber 103 = .ok (.getfield 74, 3) := by decide +kernel
theorem dX10_readsNumber_106 : decode cX10_readsNumber 106 = .ok (.iload_n 1, 1) := by decide +kernel
theorem dX10_readsNumber_107 : decode cX10_readsNumber 107 = .ok (.iload_n 2, 1) := by decide +kernel
theorem dX10_readsNumber_108 : decode cX10_readsNumber 108 = .ok (.iastore, 1) := by decide +kernel
theorem dX10_readsNumber_109 : decode cX10_readsNumber 109 = .ok (.aload_n 0, 1) := by decide +kernel
theorem dX10_readsNumber_110 : decode cX10_readsNumber 110 = .ok (.getfield 116, 3) := by decide +kernel
theorem dX10_readsNumber_113 : decode cX10_readsNumber 113 = .ok (.i2l, 1) := by decide +kernel
theorem dX10_readsNumber_114 : decode cX10_readsNumber 114 = .ok (.lconst 1, 1) := by decide +kernel
theorem dX10_readsNumber_115 : decode cX10_readsNumber 115 = .ok (.ldc2_w 123, 3) := by decide +kernel
theorem dX10_readsNumber_118 : decode cX10_readsNumber 118 = .ok (.invokestatic 85, 3) := by decide +kernel
theorem dX10_readsNumber_121 : decode cX10_readsNumber 121 = .ok (.ireturn, 1) := by decide +kernel
def uX10_in : List Cond := .code yX10_in cX10_in 6 (some .boolean) :: ([])
set_option maxHeartbeats 4000000 in
set_option maxRecDepth 100000 in
theorem m_X10_in (l : Launch) (D : va_G) (t : Nat → Nat) (cI cL cC : ClassId) (gC : Int32) (gE : Int32) (gW : Nat → Int32) (gA : Nat → Int32) (gT : Nat → Int32) (gI : Int32) (gS : Int32) (gM : Int32) (K : Nat → Int32) (F : Nat → Int32) (S : Nat → Int32) (N : Nat → Int32) (gH : Int) (gJ : Int) (ge : Int32) (gk : Int32) (gf : Int32) (gs : Int32) (gg : Int32) (gr : Int32) (RN : Nat → Int32) (a0 : Int64) (a1 : Int64) (a2 : Int64) (A : Int) (B : Int) (C : Int) (uq : ∀ b c : Nat, t b = t c → t b ≠ 0 → b = c) (hA : a0.toInt = A) (hB : a1.toInt = B) (hC : a2.toInt = C) : tM l yX10_in uX10_in 0 0 D (mF cI cL cC gC gE gW gA gT gI gS gM K F S N gH gJ ge gk gf gs gg gr RN) (mF cI cL cC gC gE gW gA gT gI gS gM K F S N gH gJ ge gk gf gs gg gr RN) t cI cL cC [.long a0, .long a1, .long a2] wr0 (pI (fun r => (r = 1 ∧ B ≤ A ∧ A ≤ C) ∨ (r = 0 ∧ (A < B ∨ C < A)))) := by
  refine tM.ofW (cc := cX10_in) (maxL := 6) (ret := (some .boolean)) (by decide) rfl (Nat.le_of_ble_eq_true rfl) ?_
  intro p e s m below meth c hx hb hr hml hown hts hlk H locs hG hK hE hS ls hl
  have hl : lv_has ls 6 [(0, .long a0), (2, .long a1), (4, .long a2)] := hl
  skip
  refine lv_lload_n hx hb dX10_in_0 rfl (lv_at hl 0 rfl) ?_
  refine lv_lload_n hx hb dX10_in_1 rfl (lv_at hl 1 rfl) ?_
  refine W.lcmp hx hb dX10_in_2 ?_
  refine lv_if_lt (tgt := 17) hx hb dX10_in_3 (by decide) (fun c_1 => ?_) (fun c_1 => ?_)
  · skip
    have c_1 : a0.toInt < a1.toInt := q_cmp_lt c_1
    refine lv_iconst (v := 0) hx hb dX10_in_17 (by decide) ?_
    have zi_0 : (0 : Int32).toInt = 0 := by decide
    exact ty_zret hx hb hr hlk rfl hG hS (Or.inr ⟨rfl, (by show A < B ∨ C < A; omega)⟩) dX10_in_18
  · skip
    have c_1 : a1.toInt ≤ a0.toInt := q_cmp_nlt c_1
    refine lv_lload_n hx hb dX10_in_6 rfl (lv_at hl 0 rfl) ?_
    refine lv_pc (pc2 := 7) rfl ?_
    refine lv_lload hx hb dX10_in_7 (lv_at hl 2 rfl) ?_
    refine W.lcmp hx hb dX10_in_9 ?_
    refine lv_if_gt (tgt := 17) hx hb dX10_in_10 (by decide) (fun c_2 => ?_) (fun c_2 => ?_)
    · skip
      have c_2 : a2.toInt < a0.toInt := q_cmp_gt c_2
      refine lv_iconst (v := 0) hx hb dX10_in_17 (by decide) ?_
      have zi_0 : (0 : Int32).toInt = 0 := by decide
      exact ty_zret hx hb hr hlk rfl hG hS (Or.inr ⟨rfl, (by show A < B ∨ C < A; omega)⟩) dX10_in_18
    · skip
      have c_2 : a0.toInt ≤ a2.toInt := q_cmp_ngt c_2
      refine lv_iconst (v := 1) hx hb dX10_in_13 (by decide) ?_
      refine lv_goto (tgt := 18) hx hb dX10_in_14 (by decide) ?_
      have zi_1 : (1 : Int32).toInt = 1 := by decide
      exact ty_zret hx hb hr hlk rfl hG hS (Or.inl ⟨rfl, (by show B ≤ A; omega), (by show A ≤ C; omega)⟩) dX10_in_18

def uX10_isName : List Cond := .code yX10_isName cX10_isName 1 (some .boolean) :: ([.constantLong RX10 95 (97), .constantLong RX10 97 (112), .methodLink RX10 85 yX10_in, .static yX10_in, .initialized RX10, .code yX10_in cX10_in 6 (some .boolean)])
set_option maxRecDepth 20000 in
theorem gu_X10_isName_X10_in_85 : GoodIn uX10_isName (va_wsS RX10 85 yX10_in uX10_in) := goodIn_r _ [3, 4, 5, 6] rfl (by decide +kernel)
set_option maxHeartbeats 4000000 in
set_option maxRecDepth 100000 in
theorem m_X10_isName (l : Launch) (D : va_G) (t : Nat → Nat) (cI cL cC : ClassId) (gC : Int32) (gE : Int32) (gW : Nat → Int32) (gA : Nat → Int32) (gT : Nat → Int32) (gI : Int32) (gS : Int32) (gM : Int32) (K : Nat → Int32) (F : Nat → Int32) (S : Nat → Int32) (N : Nat → Int32) (gH : Int) (gJ : Int) (ge : Int32) (gk : Int32) (gf : Int32) (gs : Int32) (gg : Int32) (gr : Int32) (RN : Nat → Int32) (a0 : Int32) (uq : ∀ b c : Nat, t b = t c → t b ≠ 0 → b = c) : tM l yX10_isName uX10_isName 1 25 D (mF cI cL cC gC gE gW gA gT gI gS gM K F S N gH gJ ge gk gf gs gg gr RN) (mF cI cL cC gC gE gW gA gT gI gS gM K F S N gH gJ ge gk gf gs gg gr RN) t cI cL cC [.int a0] wr0 (pI (fun r => (r = 1 ∧ 97 ≤ a0.toInt ∧ a0.toInt ≤ 112) ∨ (r = 0 ∧ (a0.toInt < 97 ∨ 112 < a0.toInt)))) := by
  refine tM.ofW (cc := cX10_isName) (maxL := 1) (ret := (some .boolean)) (by decide) rfl (Nat.le_of_ble_eq_true rfl) ?_
  intro p e s m below meth c hx hb hr hml hown hts hlk H locs hG hK hE hS ls hl
  have hl : lv_has ls 1 [(0, .int a0)] := hl
  skip
  refine lv_iload_n hx hb dX10_isName_0 rfl (lv_at hl 0 rfl) ?_
  refine lv_i2l (v := a0.toInt64) hx hb dX10_isName_1 rfl ?_
  refine lv_ldc2 hx hb hown (hts (.constantLong RX10 95 (97)) (List.mem_of_getElem? (i := 1) rfl)) dX10_isName_2 ?_
  refine lv_ldc2 hx hb hown (hts (.constantLong RX10 97 (112)) (List.mem_of_getElem? (i := 2) rfl)) dX10_isName_5 ?_
  have zl_97 : (97 : Int64).toInt = 97 := by decide
  have zl_112 : (112 : Int64).toInt = 112 := by decide
  refine ty_calli (W.runS (As := [.long a0.toInt64, .long 97, .long 112]) (rest := []) ⟨hx, hb, hml, hown, hts⟩ (m_X10_in l D t cI cL cC gC gE gW gA gT gI gS gM K F S N gH gJ ge gk gf gs gg gr RN a0.toInt64 97 112 a0.toInt 97 112 uq (q_i2l _) (by decide) (by decide) ) (va_cwS 3 hts gu_X10_isName_X10_in_85 rfl rfl rfl (by decide +kernel) ⟨Nat.le_of_ble_eq_true rfl, Nat.le_of_ble_eq_true rfl⟩) (tP_S hG hE) rfl rfl hl.1 rfl (lv_room (Nat.le_of_ble_eq_true rfl)) dX10_isName_8 ⟨Nat.le_of_ble_eq_true rfl, Nat.le_of_ble_eq_true rfl⟩) hS (fun _ h => h) (fun r_1 H locs hp_2 hG hS o_3 => ?_)
  have hp_2 : (r_1 = 1 ∧ 97 ≤ a0.toInt ∧ a0.toInt ≤ 112) ∨ (r_1 = 0 ∧ (a0.toInt < 97 ∨ 112 < a0.toInt)) := hp_2
  rcases hp_2 with ⟨rfl, p_5, p_6⟩ | ⟨rfl, p_7⟩
  · skip
    have zi_1 : (1 : Int32).toInt = 1 := by decide
    exact ty_zret hx hb hr hlk rfl hG hS (Or.inl ⟨rfl, (by show 97 ≤ a0.toInt; omega), (by show a0.toInt ≤ 112; omega)⟩) dX10_isName_11
  · skip
    have zi_0 : (0 : Int32).toInt = 0 := by decide
    exact ty_zret hx hb hr hlk rfl hG hS (Or.inr ⟨rfl, (by show a0.toInt < 97 ∨ 112 < a0.toInt; omega)⟩) dX10_isName_11

def uX10_shape : List Cond := .code yX10_shape cX10_shape 1 (some .int) :: ([])
set_option maxHeartbeats 4000000 in
set_option maxRecDepth 100000 in
theorem m_X10_shape (l : Launch) (D : va_G) (t : Nat → Nat) (cI cL cC : ClassId) (gC : Int32) (gE : Int32) (gW : Nat → Int32) (gA : Nat → Int32) (gT : Nat → Int32) (gI : Int32) (gS : Int32) (gM : Int32) (K : Nat → Int32) (F : Nat → Int32) (S : Nat → Int32) (N : Nat → Int32) (gH : Int) (gJ : Int) (ge : Int32) (gk : Int32) (gf : Int32) (gs : Int32) (gg : Int32) (gr : Int32) (RN : Nat → Int32) (a0 : Int32) (uq : ∀ b c : Nat, t b = t c → t b ≠ 0 → b = c) : tM l yX10_shape uX10_shape 0 0 D (mF cI cL cC gC gE gW gA gT gI gS gM K F S N gH gJ ge gk gf gs gg gr RN) (mF cI cL cC gC gE gW gA gT gI gS gM K F S N gH gJ ge gk gf gs gg gr RN) t cI cL cC [.int a0] wr0 (pI (fun r => (r.toInt = -1 ∨ (10 ≤ r.toInt ∧ r.toInt ≤ 23 ∧ r.toInt % 10 ≤ 3)) ∧ (a0.toInt = 116 → r.toInt = 21))) := by
  refine tM.ofW (cc := cX10_shape) (maxL := 1) (ret := (some .int)) (by decide) rfl (Nat.le_of_ble_eq_true rfl) ?_
  intro p e s m below meth c hx hb hr hml hown hts hlk H locs hG hK hE hS ls hl
  have hl : lv_has ls 1 [(0, .int a0)] := hl
  skip
  refine lv_iload_n hx hb dX10_shape_0 rfl (lv_at hl 0 rfl) ?_
  by_cases k_1 : a0.toInt = 101
  · refine lv_tableIn (tgt := 116) hx hb dX10_shape_1 (by rw [k_1]; decide) (by rw [k_1]; decide) (by rw [k_1]; rfl) (by decide) ?_
    refine lv_bipush (v := 11) hx hb dX10_shape_116 (by decide) ?_
    have zi_11 : (11 : Int32).toInt = 11 := by decide
    exact ty_iret hx hb hr hlk hG hS ⟨(by show (11 : Int32).toInt = -1 ∨ (10 ≤ (11 : Int32).toInt ∧ (11 : Int32).toInt ≤ 23 ∧ (11 : Int32).toInt % 10 ≤ 3); omega), (by show a0.toInt = 116 → (11 : Int32).toInt = 21; omega)⟩ dX10_shape_118
  by_cases k_2 : a0.toInt = 102
  · refine lv_tableIn (tgt := 122) hx hb dX10_shape_1 (by rw [k_2]; decide) (by rw [k_2]; decide) (by rw [k_2]; rfl) (by decide) ?_
    refine lv_iconst (v := (-1)) hx hb dX10_shape_122 (by decide) ?_
    have zi_m1 : ((-1) : Int32).toInt = (-1) := by decide
    exact ty_iret hx hb hr hlk hG hS ⟨(by show ((-1) : Int32).toInt = -1 ∨ (10 ≤ ((-1) : Int32).toInt ∧ ((-1) : Int32).toInt ≤ 23 ∧ ((-1) : Int32).toInt % 10 ≤ 3); omega), (by show a0.toInt = 116 → ((-1) : Int32).toInt = 21; omega)⟩ dX10_shape_123
  by_cases k_3 : a0.toInt = 103
  · refine lv_tableIn (tgt := 113) hx hb dX10_shape_1 (by rw [k_3]; decide) (by rw [k_3]; decide) (by rw [k_3]; rfl) (by decide) ?_
    refine lv_bipush (v := 21) hx hb dX10_shape_113 (by decide) ?_
    refine lv_pc (pc2 := 115) rfl ?_
    have zi_21 : (21 : Int32).toInt = 21 := by decide
    exact ty_iret hx hb hr hlk hG hS ⟨(by show (21 : Int32).toInt = -1 ∨ (10 ≤ (21 : Int32).toInt ∧ (21 : Int32).toInt ≤ 23 ∧ (21 : Int32).toInt % 10 ≤ 3); omega), (by show a0.toInt = 116 → (21 : Int32).toInt = 21; omega)⟩ dX10_shape_115
  by_cases k_4 : a0.toInt = 104
  · refine lv_tableIn (tgt := 122) hx hb dX10_shape_1 (by rw [k_4]; decide) (by rw [k_4]; decide) (by rw [k_4]; rfl) (by decide) ?_
    refine lv_iconst (v := (-1)) hx hb dX10_shape_122 (by decide) ?_
    have zi_m1 : ((-1) : Int32).toInt = (-1) := by decide
    exact ty_iret hx hb hr hlk hG hS ⟨(by show ((-1) : Int32).toInt = -1 ∨ (10 ≤ ((-1) : Int32).toInt ∧ ((-1) : Int32).toInt ≤ 23 ∧ ((-1) : Int32).toInt % 10 ≤ 3); omega), (by show a0.toInt = 116 → ((-1) : Int32).toInt = 21; omega)⟩ dX10_shape_123
  by_cases k_5 : a0.toInt = 105
  · refine lv_tableIn (tgt := 122) hx hb dX10_shape_1 (by rw [k_5]; decide) (by rw [k_5]; decide) (by rw [k_5]; rfl) (by decide) ?_
    refine lv_iconst (v := (-1)) hx hb dX10_shape_122 (by decide) ?_
    have zi_m1 : ((-1) : Int32).toInt = (-1) := by decide
    exact ty_iret hx hb hr hlk hG hS ⟨(by show ((-1) : Int32).toInt = -1 ∨ (10 ≤ ((-1) : Int32).toInt ∧ ((-1) : Int32).toInt ≤ 23 ∧ ((-1) : Int32).toInt % 10 ≤ 3); omega), (by show a0.toInt = 116 → ((-1) : Int32).toInt = 21; omega)⟩ dX10_shape_123
  by_cases k_6 : a0.toInt = 106
  · refine lv_tableIn (tgt := 122) hx hb dX10_shape_1 (by rw [k_6]; decide) (by rw [k_6]; decide) (by rw [k_6]; rfl) (by decide) ?_
    refine lv_iconst (v := (-1)) hx hb dX10_shape_122 (by decide) ?_
    have zi_m1 : ((-1) : Int32).toInt = (-1) := by decide
    exact ty_iret hx hb hr hlk hG hS ⟨(by show ((-1) : Int32).toInt = -1 ∨ (10 ≤ ((-1) : Int32).toInt ∧ ((-1) : Int32).toInt ≤ 23 ∧ ((-1) : Int32).toInt % 10 ≤ 3); omega), (by show a0.toInt = 116 → ((-1) : Int32).toInt = 21; omega)⟩ dX10_shape_123
  by_cases k_7 : a0.toInt = 107
  · refine lv_tableIn (tgt := 122) hx hb dX10_shape_1 (by rw [k_7]; decide) (by rw [k_7]; decide) (by rw [k_7]; rfl) (by decide) ?_
    refine lv_iconst (v := (-1)) hx hb dX10_shape_122 (by decide) ?_
    refine lv_pc (pc2 := 123) rfl ?_
    have zi_m1 : ((-1) : Int32).toInt = (-1) := by decide
    exact ty_iret hx hb hr hlk hG hS ⟨(by show ((-1) : Int32).toInt = -1 ∨ (10 ≤ ((-1) : Int32).toInt ∧ ((-1) : Int32).toInt ≤ 23 ∧ ((-1) : Int32).toInt % 10 ≤ 3); omega), (by show a0.toInt = 116 → ((-1) : Int32).toInt = 21; omega)⟩ dX10_shape_123
  by_cases k_8 : a0.toInt = 108
  · refine lv_tableIn (tgt := 107) hx hb dX10_shape_1 (by rw [k_8]; decide) (by rw [k_8]; decide) (by rw [k_8]; rfl) (by decide) ?_
    refine lv_bipush (v := 23) hx hb dX10_shape_107 (by decide) ?_
    have zi_23 : (23 : Int32).toInt = 23 := by decide
    exact ty_iret hx hb hr hlk hG hS ⟨(by show (23 : Int32).toInt = -1 ∨ (10 ≤ (23 : Int32).toInt ∧ (23 : Int32).toInt ≤ 23 ∧ (23 : Int32).toInt % 10 ≤ 3); omega), (by show a0.toInt = 116 → (23 : Int32).toInt = 21; omega)⟩ dX10_shape_109
  by_cases k_9 : a0.toInt = 109
  · refine lv_tableIn (tgt := 113) hx hb dX10_shape_1 (by rw [k_9]; decide) (by rw [k_9]; decide) (by rw [k_9]; rfl) (by decide) ?_
    refine lv_bipush (v := 21) hx hb dX10_shape_113 (by decide) ?_
    have zi_21 : (21 : Int32).toInt = 21 := by decide
    exact ty_iret hx hb hr hlk hG hS ⟨(by show (21 : Int32).toInt = -1 ∨ (10 ≤ (21 : Int32).toInt ∧ (21 : Int32).toInt ≤ 23 ∧ (21 : Int32).toInt % 10 ≤ 3); omega), (by show a0.toInt = 116 → (21 : Int32).toInt = 21; omega)⟩ dX10_shape_115
  by_cases k_10 : a0.toInt = 110
  · refine lv_tableIn (tgt := 116) hx hb dX10_shape_1 (by rw [k_10]; decide) (by rw [k_10]; decide) (by rw [k_10]; rfl) (by decide) ?_
    refine lv_bipush (v := 11) hx hb dX10_shape_116 (by decide) ?_
    have zi_11 : (11 : Int32).toInt = 11 := by decide
    exact ty_iret hx hb hr hlk hG hS ⟨(by show (11 : Int32).toInt = -1 ∨ (10 ≤ (11 : Int32).toInt ∧ (11 : Int32).toInt ≤ 23 ∧ (11 : Int32).toInt % 10 ≤ 3); omega), (by show a0.toInt = 116 → (11 : Int32).toInt = 21; omega)⟩ dX10_shape_118
  by_cases k_11 : a0.toInt = 111
  · refine lv_tableIn (tgt := 110) hx hb dX10_shape_1 (by rw [k_11]; decide) (by rw [k_11]; decide) (by rw [k_11]; rfl) (by decide) ?_
    refine lv_bipush (v := 20) hx hb dX10_shape_110 (by decide) ?_
    refine lv_pc (pc2 := 112) rfl ?_
    have zi_20 : (20 : Int32).toInt = 20 := by decide
    exact ty_iret hx hb hr hlk hG hS ⟨(by show (20 : Int32).toInt = -1 ∨ (10 ≤ (20 : Int32).toInt ∧ (20 : Int32).toInt ≤ 23 ∧ (20 : Int32).toInt % 10 ≤ 3); omega), (by show a0.toInt = 116 → (20 : Int32).toInt = 21; omega)⟩ dX10_shape_112
  by_cases k_12 : a0.toInt = 112
  · refine lv_tableIn (tgt := 122) hx hb dX10_shape_1 (by rw [k_12]; decide) (by rw [k_12]; decide) (by rw [k_12]; rfl) (by decide) ?_
    refine lv_iconst (v := (-1)) hx hb dX10_shape_122 (by decide) ?_
    have zi_m1 : ((-1) : Int32).toInt = (-1) := by decide
    exact ty_iret hx hb hr hlk hG hS ⟨(by show ((-1) : Int32).toInt = -1 ∨ (10 ≤ ((-1) : Int32).toInt ∧ ((-1) : Int32).toInt ≤ 23 ∧ ((-1) : Int32).toInt % 10 ≤ 3); omega), (by show a0.toInt = 116 → ((-1) : Int32).toInt = 21; omega)⟩ dX10_shape_123
  by_cases k_13 : a0.toInt = 113
  · refine lv_tableIn (tgt := 122) hx hb dX10_shape_1 (by rw [k_13]; decide) (by rw [k_13]; decide) (by rw [k_13]; rfl) (by decide) ?_
    refine lv_iconst (v := (-1)) hx hb dX10_shape_122 (by decide) ?_
    have zi_m1 : ((-1) : Int32).toInt = (-1) := by decide
    exact ty_iret hx hb hr hlk hG hS ⟨(by show ((-1) : Int32).toInt = -1 ∨ (10 ≤ ((-1) : Int32).toInt ∧ ((-1) : Int32).toInt ≤ 23 ∧ ((-1) : Int32).toInt % 10 ≤ 3); omega), (by show a0.toInt = 116 → ((-1) : Int32).toInt = 21; omega)⟩ dX10_shape_123
  by_cases k_14 : a0.toInt = 114
  · refine lv_tableIn (tgt := 116) hx hb dX10_shape_1 (by rw [k_14]; decide) (by rw [k_14]; decide) (by rw [k_14]; rfl) (by decide) ?_
    refine lv_bipush (v := 11) hx hb dX10_shape_116 (by decide) ?_
    have zi_11 : (11 : Int32).toInt = 11 := by decide
    exact ty_iret hx hb hr hlk hG hS ⟨(by show (11 : Int32).toInt = -1 ∨ (10 ≤ (11 : Int32).toInt ∧ (11 : Int32).toInt ≤ 23 ∧ (11 : Int32).toInt % 10 ≤ 3); omega), (by show a0.toInt = 116 → (11 : Int32).toInt = 21; omega)⟩ dX10_shape_118
  by_cases k_15 : a0.toInt = 115
  · refine lv_tableIn (tgt := 104) hx hb dX10_shape_1 (by rw [k_15]; decide) (by rw [k_15]; decide) (by rw [k_15]; rfl) (by decide) ?_
    refine lv_bipush (v := 12) hx hb dX10_shape_104 (by decide) ?_
    refine lv_pc (pc2 := 106) rfl ?_
    have zi_12 : (12 : Int32).toInt = 12 := by decide
    exact ty_iret hx hb hr hlk hG hS ⟨(by show (12 : Int32).toInt = -1 ∨ (10 ≤ (12 : Int32).toInt ∧ (12 : Int32).toInt ≤ 23 ∧ (12 : Int32).toInt % 10 ≤ 3); omega), (by show a0.toInt = 116 → (12 : Int32).toInt = 21; omega)⟩ dX10_shape_106
  by_cases k_16 : a0.toInt = 116
  · refine lv_tableIn (tgt := 113) hx hb dX10_shape_1 (by rw [k_16]; decide) (by rw [k_16]; decide) (by rw [k_16]; rfl) (by decide) ?_
    refine lv_bipush (v := 21) hx hb dX10_shape_113 (by decide) ?_
    have zi_21 : (21 : Int32).toInt = 21 := by decide
    exact ty_iret hx hb hr hlk hG hS ⟨(by show (21 : Int32).toInt = -1 ∨ (10 ≤ (21 : Int32).toInt ∧ (21 : Int32).toInt ≤ 23 ∧ (21 : Int32).toInt % 10 ≤ 3); omega), (by show a0.toInt = 116 → (21 : Int32).toInt = 21; omega)⟩ dX10_shape_115
  by_cases k_17 : a0.toInt = 117
  · refine lv_tableIn (tgt := 122) hx hb dX10_shape_1 (by rw [k_17]; decide) (by rw [k_17]; decide) (by rw [k_17]; rfl) (by decide) ?_
    refine lv_iconst (v := (-1)) hx hb dX10_shape_122 (by decide) ?_
    have zi_m1 : ((-1) : Int32).toInt = (-1) := by decide
    exact ty_iret hx hb hr hlk hG hS ⟨(by show ((-1) : Int32).toInt = -1 ∨ (10 ≤ ((-1) : Int32).toInt ∧ ((-1) : Int32).toInt ≤ 23 ∧ ((-1) : Int32).toInt % 10 ≤ 3); omega), (by show a0.toInt = 116 → ((-1) : Int32).toInt = 21; omega)⟩ dX10_shape_123
  by_cases k_18 : a0.toInt = 118
  · refine lv_tableIn (tgt := 122) hx hb dX10_shape_1 (by rw [k_18]; decide) (by rw [k_18]; decide) (by rw [k_18]; rfl) (by decide) ?_
    refine lv_iconst (v := (-1)) hx hb dX10_shape_122 (by decide) ?_
    have zi_m1 : ((-1) : Int32).toInt = (-1) := by decide
    exact ty_iret hx hb hr hlk hG hS ⟨(by show ((-1) : Int32).toInt = -1 ∨ (10 ≤ ((-1) : Int32).toInt ∧ ((-1) : Int32).toInt ≤ 23 ∧ ((-1) : Int32).toInt % 10 ≤ 3); omega), (by show a0.toInt = 116 → ((-1) : Int32).toInt = 21; omega)⟩ dX10_shape_123
  by_cases k_19 : a0.toInt = 119
  · refine lv_tableIn (tgt := 122) hx hb dX10_shape_1 (by rw [k_19]; decide) (by rw [k_19]; decide) (by rw [k_19]; rfl) (by decide) ?_
    refine lv_iconst (v := (-1)) hx hb dX10_shape_122 (by decide) ?_
    refine lv_pc (pc2 := 123) rfl ?_
    have zi_m1 : ((-1) : Int32).toInt = (-1) := by decide
    exact ty_iret hx hb hr hlk hG hS ⟨(by show ((-1) : Int32).toInt = -1 ∨ (10 ≤ ((-1) : Int32).toInt ∧ ((-1) : Int32).toInt ≤ 23 ∧ ((-1) : Int32).toInt % 10 ≤ 3); omega), (by show a0.toInt = 116 → ((-1) : Int32).toInt = 21; omega)⟩ dX10_shape_123
  by_cases k_20 : a0.toInt = 120
  · refine lv_tableIn (tgt := 122) hx hb dX10_shape_1 (by rw [k_20]; decide) (by rw [k_20]; decide) (by rw [k_20]; rfl) (by decide) ?_
    refine lv_iconst (v := (-1)) hx hb dX10_shape_122 (by decide) ?_
    have zi_m1 : ((-1) : Int32).toInt = (-1) := by decide
    exact ty_iret hx hb hr hlk hG hS ⟨(by show ((-1) : Int32).toInt = -1 ∨ (10 ≤ ((-1) : Int32).toInt ∧ ((-1) : Int32).toInt ≤ 23 ∧ ((-1) : Int32).toInt % 10 ≤ 3); omega), (by show a0.toInt = 116 → ((-1) : Int32).toInt = 21; omega)⟩ dX10_shape_123
  by_cases k_21 : a0.toInt = 121
  · refine lv_tableIn (tgt := 122) hx hb dX10_shape_1 (by rw [k_21]; decide) (by rw [k_21]; decide) (by rw [k_21]; rfl) (by decide) ?_
    refine lv_iconst (v := (-1)) hx hb dX10_shape_122 (by decide) ?_
    have zi_m1 : ((-1) : Int32).toInt = (-1) := by decide
    exact ty_iret hx hb hr hlk hG hS ⟨(by show ((-1) : Int32).toInt = -1 ∨ (10 ≤ ((-1) : Int32).toInt ∧ ((-1) : Int32).toInt ≤ 23 ∧ ((-1) : Int32).toInt % 10 ≤ 3); omega), (by show a0.toInt = 116 → ((-1) : Int32).toInt = 21; omega)⟩ dX10_shape_123
  by_cases k_22 : a0.toInt = 122
  · refine lv_tableIn (tgt := 119) hx hb dX10_shape_1 (by rw [k_22]; decide) (by rw [k_22]; decide) (by rw [k_22]; rfl) (by decide) ?_
    refine lv_bipush (v := 10) hx hb dX10_shape_119 (by decide) ?_
    have zi_10 : (10 : Int32).toInt = 10 := by decide
    exact ty_iret hx hb hr hlk hG hS ⟨(by show (10 : Int32).toInt = -1 ∨ (10 ≤ (10 : Int32).toInt ∧ (10 : Int32).toInt ≤ 23 ∧ (10 : Int32).toInt % 10 ≤ 3); omega), (by show a0.toInt = 116 → (10 : Int32).toInt = 21; omega)⟩ dX10_shape_121
  refine lv_tableOut (tgt := 122) hx hb dX10_shape_1 (by omega) (by decide) ?_
  refine lv_iconst (v := (-1)) hx hb dX10_shape_122 (by decide) ?_
  refine lv_pc (pc2 := 123) rfl ?_
  have zi_m1 : ((-1) : Int32).toInt = (-1) := by decide
  exact ty_iret hx hb hr hlk hG hS ⟨(by show ((-1) : Int32).toInt = -1 ∨ (10 ≤ ((-1) : Int32).toInt ∧ ((-1) : Int32).toInt ≤ 23 ∧ ((-1) : Int32).toInt % 10 ≤ 3); omega), (by show a0.toInt = 116 → ((-1) : Int32).toInt = 21; omega)⟩ dX10_shape_123

def uX10_areWell : List Cond := .code yX10_areWell cX10_areWell 4 (some .boolean) :: ([.constantLong RX10 101 (1000), .methodLink RX10 85 yX10_in, .static yX10_in, .initialized RX10, .constantLong RX10 103 (10000), .constantLong RX10 99 (1000000), .constantLong RX10 107 (100), .constantLong RX10 105 (12), .code yX10_in cX10_in 6 (some .boolean)])
set_option maxRecDepth 20000 in
theorem gu_X10_areWell_X10_in_85 : GoodIn uX10_areWell (va_wsS RX10 85 yX10_in uX10_in) := goodIn_r _ [2, 3, 4, 9] rfl (by decide +kernel)
set_option maxHeartbeats 4000000 in
set_option maxRecDepth 100000 in
theorem m_X10_areWell (l : Launch) (D : va_G) (t : Nat → Nat) (cI cL cC : ClassId) (gC : Int32) (gE : Int32) (gW : Nat → Int32) (gA : Nat → Int32) (gT : Nat → Int32) (gI : Int32) (gS : Int32) (gM : Int32) (K : Nat → Int32) (F : Nat → Int32) (S : Nat → Int32) (N : Nat → Int32) (gH : Int) (gJ : Int) (ge : Int32) (gk : Int32) (gf : Int32) (gs : Int32) (gg : Int32) (gr : Int32) (RN : Nat → Int32) (a0 : Int32) (a1 : Int32) (a2 : Int32) (a3 : Int32) (uq : ∀ b c : Nat, t b = t c → t b ≠ 0 → b = c) : tM l yX10_areWell uX10_areWell 1 25 D (mF cI cL cC gC gE gW gA gT gI gS gM K F S N gH gJ ge gk gf gs gg gr RN) (mF cI cL cC gC gE gW gA gT gI gS gM K F S N gH gJ ge gk gf gs gg gr RN) t cI cL cC [.int a0, .int a1, .int a2, .int a3] wr0 (pI (fun r => (r = 1 ∧ weOk a0 a1 a2) ∨ (r = 0))) := by
  refine tM.ofW (cc := cX10_areWell) (maxL := 4) (ret := (some .boolean)) (by decide) rfl (Nat.le_of_ble_eq_true rfl) ?_
  intro p e s m below meth c hx hb hr hml hown hts hlk H locs hG hK hE hS ls hl
  have hl : lv_has ls 4 [(0, .int a0), (1, .int a1), (2, .int a2), (3, .int a3)] := hl
  skip
  refine lv_iload_n hx hb dX10_areWell_0 rfl (lv_at hl 0 rfl) ?_
  by_cases k_1 : a0.toInt = 101
  · refine lv_tableIn (tgt := 151) hx hb dX10_areWell_1 (by rw [k_1]; decide) (by rw [k_1]; decide) (by rw [k_1]; rfl) (by decide) ?_
    refine lv_iload_n hx hb dX10_areWell_151 rfl (lv_at hl 1 rfl) ?_
    refine lv_i2l (v := a1.toInt64) hx hb dX10_areWell_152 rfl ?_
    refine lv_lconst (v := 0) hx hb dX10_areWell_153 (by decide) ?_
    refine lv_ldc2 hx hb hown (hts (.constantLong RX10 101 (1000)) (List.mem_of_getElem? (i := 1) rfl)) dX10_areWell_154 ?_
    have zl_0 : (0 : Int64).toInt = 0 := by decide
    have zl_1000 : (1000 : Int64).toInt = 1000 := by decide
    refine ty_calli (W.runS (As := [.long a1.toInt64, .long 0, .long 1000]) (rest := []) ⟨hx, hb, hml, hown, hts⟩ (m_X10_in l D t cI cL cC gC gE gW gA gT gI gS gM K F S N gH gJ ge gk gf gs gg gr RN a1.toInt64 0 1000 a1.toInt 0 1000 uq (q_i2l _) (by decide) (by decide) ) (va_cwS 3 hts gu_X10_areWell_X10_in_85 rfl rfl rfl (by decide +kernel) ⟨Nat.le_of_ble_eq_true rfl, Nat.le_of_ble_eq_true rfl⟩) (tP_S hG hE) rfl rfl hl.1 rfl (lv_room (Nat.le_of_ble_eq_true rfl)) dX10_areWell_157 ⟨Nat.le_of_ble_eq_true rfl, Nat.le_of_ble_eq_true rfl⟩) hS (fun _ h => h) (fun r_2 H locs hp_3 hG hS o_4 => ?_)
    have hp_3 : (r_2 = 1 ∧ 0 ≤ a1.toInt ∧ a1.toInt ≤ 1000) ∨ (r_2 = 0 ∧ (a1.toInt < 0 ∨ 1000 < a1.toInt)) := hp_3
    rcases hp_3 with ⟨rfl, p_6, p_7⟩ | ⟨rfl, p_8⟩
    · skip
      refine lv_pc (pc2 := 160) rfl ?_
      have zi_1 : (1 : Int32).toInt = 1 := by decide
      exact ty_zret hx hb hr hlk rfl hG hS (Or.inl ⟨rfl, ⟨fun q => by omega, fun q => by omega⟩⟩) dX10_areWell_160
    · skip
      have zi_0 : (0 : Int32).toInt = 0 := by decide
      exact ty_zret hx hb hr hlk rfl hG hS (Or.inr rfl) dX10_areWell_160
  by_cases k_9 : a0.toInt = 102
  · refine lv_tableIn (tgt := 191) hx hb dX10_areWell_1 (by rw [k_9]; decide) (by rw [k_9]; decide) (by rw [k_9]; rfl) (by decide) ?_
    refine lv_iconst (v := 1) hx hb dX10_areWell_191 (by decide) ?_
    have zi_1 : (1 : Int32).toInt = 1 := by decide
    exact ty_zret hx hb hr hlk rfl hG hS (Or.inl ⟨rfl, ⟨fun q => by omega, fun q => by omega⟩⟩) dX10_areWell_192
  by_cases k_10 : a0.toInt = 103
  · refine lv_tableIn (tgt := 161) hx hb dX10_areWell_1 (by rw [k_10]; decide) (by rw [k_10]; decide) (by rw [k_10]; rfl) (by decide) ?_
    refine lv_iload_n hx hb dX10_areWell_161 rfl (lv_at hl 1 rfl) ?_
    refine lv_i2l (v := a1.toInt64) hx hb dX10_areWell_162 rfl ?_
    refine lv_lconst (v := 0) hx hb dX10_areWell_163 (by decide) ?_
    refine lv_ldc2 hx hb hown (hts (.constantLong RX10 103 (10000)) (List.mem_of_getElem? (i := 5) rfl)) dX10_areWell_164 ?_
    refine lv_pc (pc2 := 167) rfl ?_
    have zl_0 : (0 : Int64).toInt = 0 := by decide
    have zl_10000 : (10000 : Int64).toInt = 10000 := by decide
    refine ty_calli (W.runS (As := [.long a1.toInt64, .long 0, .long 10000]) (rest := []) ⟨hx, hb, hml, hown, hts⟩ (m_X10_in l D t cI cL cC gC gE gW gA gT gI gS gM K F S N gH gJ ge gk gf gs gg gr RN a1.toInt64 0 10000 a1.toInt 0 10000 uq (q_i2l _) (by decide) (by decide) ) (va_cwS 3 hts gu_X10_areWell_X10_in_85 rfl rfl rfl (by decide +kernel) ⟨Nat.le_of_ble_eq_true rfl, Nat.le_of_ble_eq_true rfl⟩) (tP_S hG hE) rfl rfl hl.1 rfl (lv_room (Nat.le_of_ble_eq_true rfl)) dX10_areWell_167 ⟨Nat.le_of_ble_eq_true rfl, Nat.le_of_ble_eq_true rfl⟩) hS (fun _ h => h) (fun r_11 H locs hp_12 hG hS o_13 => ?_)
    have hp_12 : (r_11 = 1 ∧ 0 ≤ a1.toInt ∧ a1.toInt ≤ 10000) ∨ (r_11 = 0 ∧ (a1.toInt < 0 ∨ 10000 < a1.toInt)) := hp_12
    rcases hp_12 with ⟨rfl, p_15, p_16⟩ | ⟨rfl, p_17⟩
    · skip
      have zi_1 : (1 : Int32).toInt = 1 := by decide
      exact ty_zret hx hb hr hlk rfl hG hS (Or.inl ⟨rfl, ⟨fun q => by omega, fun q => by omega⟩⟩) dX10_areWell_170
    · skip
      have zi_0 : (0 : Int32).toInt = 0 := by decide
      exact ty_zret hx hb hr hlk rfl hG hS (Or.inr rfl) dX10_areWell_170
  by_cases k_18 : a0.toInt = 104
  · refine lv_tableIn (tgt := 191) hx hb dX10_areWell_1 (by rw [k_18]; decide) (by rw [k_18]; decide) (by rw [k_18]; rfl) (by decide) ?_
    refine lv_iconst (v := 1) hx hb dX10_areWell_191 (by decide) ?_
    have zi_1 : (1 : Int32).toInt = 1 := by decide
    exact ty_zret hx hb hr hlk rfl hG hS (Or.inl ⟨rfl, ⟨fun q => by omega, fun q => by omega⟩⟩) dX10_areWell_192
  by_cases k_19 : a0.toInt = 105
  · refine lv_tableIn (tgt := 191) hx hb dX10_areWell_1 (by rw [k_19]; decide) (by rw [k_19]; decide) (by rw [k_19]; rfl) (by decide) ?_
    refine lv_iconst (v := 1) hx hb dX10_areWell_191 (by decide) ?_
    have zi_1 : (1 : Int32).toInt = 1 := by decide
    exact ty_zret hx hb hr hlk rfl hG hS (Or.inl ⟨rfl, ⟨fun q => by omega, fun q => by omega⟩⟩) dX10_areWell_192
  by_cases k_20 : a0.toInt = 106
  · refine lv_tableIn (tgt := 191) hx hb dX10_areWell_1 (by rw [k_20]; decide) (by rw [k_20]; decide) (by rw [k_20]; rfl) (by decide) ?_
    refine lv_iconst (v := 1) hx hb dX10_areWell_191 (by decide) ?_
    refine lv_pc (pc2 := 192) rfl ?_
    have zi_1 : (1 : Int32).toInt = 1 := by decide
    exact ty_zret hx hb hr hlk rfl hG hS (Or.inl ⟨rfl, ⟨fun q => by omega, fun q => by omega⟩⟩) dX10_areWell_192
  by_cases k_21 : a0.toInt = 107
  · refine lv_tableIn (tgt := 191) hx hb dX10_areWell_1 (by rw [k_21]; decide) (by rw [k_21]; decide) (by rw [k_21]; rfl) (by decide) ?_
    refine lv_iconst (v := 1) hx hb dX10_areWell_191 (by decide) ?_
    have zi_1 : (1 : Int32).toInt = 1 := by decide
    exact ty_zret hx hb hr hlk rfl hG hS (Or.inl ⟨rfl, ⟨fun q => by omega, fun q => by omega⟩⟩) dX10_areWell_192
  by_cases k_22 : a0.toInt = 108
  · refine lv_tableIn (tgt := 110) hx hb dX10_areWell_1 (by rw [k_22]; decide) (by rw [k_22]; decide) (by rw [k_22]; rfl) (by decide) ?_
    refine lv_iload_n hx hb dX10_areWell_110 rfl (lv_at hl 2 rfl) ?_
    refine lv_i2l (v := a2.toInt64) hx hb dX10_areWell_111 rfl ?_
    refine lv_lconst (v := 1) hx hb dX10_areWell_112 (by decide) ?_
    refine lv_ldc2 hx hb hown (hts (.constantLong RX10 101 (1000)) (List.mem_of_getElem? (i := 1) rfl)) dX10_areWell_113 ?_
    have zl_1 : (1 : Int64).toInt = 1 := by decide
    have zl_1000 : (1000 : Int64).toInt = 1000 := by decide
    refine ty_calli (W.runS (As := [.long a2.toInt64, .long 1, .long 1000]) (rest := []) ⟨hx, hb, hml, hown, hts⟩ (m_X10_in l D t cI cL cC gC gE gW gA gT gI gS gM K F S N gH gJ ge gk gf gs gg gr RN a2.toInt64 1 1000 a2.toInt 1 1000 uq (q_i2l _) (by decide) (by decide) ) (va_cwS 3 hts gu_X10_areWell_X10_in_85 rfl rfl rfl (by decide +kernel) ⟨Nat.le_of_ble_eq_true rfl, Nat.le_of_ble_eq_true rfl⟩) (tP_S hG hE) rfl rfl hl.1 rfl (lv_room (Nat.le_of_ble_eq_true rfl)) dX10_areWell_116 ⟨Nat.le_of_ble_eq_true rfl, Nat.le_of_ble_eq_true rfl⟩) hS (fun _ h => h) (fun r_23 H locs hp_24 hG hS o_25 => ?_)
    have hp_24 : (r_23 = 1 ∧ 1 ≤ a2.toInt ∧ a2.toInt ≤ 1000) ∨ (r_23 = 0 ∧ (a2.toInt < 1 ∨ 1000 < a2.toInt)) := hp_24
    rcases hp_24 with ⟨rfl, p_27, p_28⟩ | ⟨rfl, p_29⟩
    · skip
      refine lv_pc (pc2 := 119) rfl ?_
      refine lv_if_eq (tgt := 149) hx hb dX10_areWell_119 (by decide) (fun q => absurd q (by decide)) (fun _ => ?_)
      refine lv_iload_n hx hb dX10_areWell_122 rfl (lv_at hl 1 rfl) ?_
      refine lv_i2l (v := a1.toInt64) hx hb dX10_areWell_123 rfl ?_
      refine lv_lconst (v := 0) hx hb dX10_areWell_124 (by decide) ?_
      refine lv_iload_n hx hb dX10_areWell_125 rfl (lv_at hl 2 rfl) ?_
      refine lv_i2l (v := a2.toInt64) hx hb dX10_areWell_126 rfl ?_
      have zl_0 : (0 : Int64).toInt = 0 := by decide
      refine ty_calli (W.runS (As := [.long a1.toInt64, .long 0, .long a2.toInt64]) (rest := []) ⟨hx, hb, hml, hown, hts⟩ (m_X10_in l D t cI cL cC gC gE gW gA gT gI gS gM K F S N gH gJ ge gk gf gs gg gr RN a1.toInt64 0 a2.toInt64 a1.toInt 0 a2.toInt uq (q_i2l _) (by decide) (q_i2l _) ) (va_cwS 3 hts gu_X10_areWell_X10_in_85 rfl rfl rfl (by decide +kernel) ⟨Nat.le_of_ble_eq_true rfl, Nat.le_of_ble_eq_true rfl⟩) (tP_S hG hE) rfl rfl hl.1 rfl (lv_room (Nat.le_of_ble_eq_true rfl)) dX10_areWell_127 ⟨Nat.le_of_ble_eq_true rfl, Nat.le_of_ble_eq_true rfl⟩) hS (fun _ h => h) (fun r_30 H locs hp_31 hG hS o_32 => ?_)
      have hp_31 : (r_30 = 1 ∧ 0 ≤ a1.toInt ∧ a1.toInt ≤ a2.toInt) ∨ (r_30 = 0 ∧ (a1.toInt < 0 ∨ a2.toInt < a1.toInt)) := hp_31
      rcases hp_31 with ⟨rfl, p_34, p_35⟩ | ⟨rfl, p_36⟩
      · skip
        refine lv_if_eq (tgt := 149) hx hb dX10_areWell_130 (by decide) (fun q => absurd q (by decide)) (fun _ => ?_)
        refine lv_pc (pc2 := 133) rfl ?_
        refine lv_iload_n hx hb dX10_areWell_133 rfl (lv_at hl 3 rfl) ?_
        refine lv_i2l (v := a3.toInt64) hx hb dX10_areWell_134 rfl ?_
        refine lv_lconst (v := 0) hx hb dX10_areWell_135 (by decide) ?_
        refine lv_ldc2 hx hb hown (hts (.constantLong RX10 99 (1000000)) (List.mem_of_getElem? (i := 6) rfl)) dX10_areWell_136 ?_
        have zl_1000000 : (1000000 : Int64).toInt = 1000000 := by decide
        refine ty_calli (W.runS (As := [.long a3.toInt64, .long 0, .long 1000000]) (rest := []) ⟨hx, hb, hml, hown, hts⟩ (m_X10_in l D t cI cL cC gC gE gW gA gT gI gS gM K F S N gH gJ ge gk gf gs gg gr RN a3.toInt64 0 1000000 a3.toInt 0 1000000 uq (q_i2l _) (by decide) (by decide) ) (va_cwS 3 hts gu_X10_areWell_X10_in_85 rfl rfl rfl (by decide +kernel) ⟨Nat.le_of_ble_eq_true rfl, Nat.le_of_ble_eq_true rfl⟩) (tP_S hG hE) rfl rfl hl.1 rfl (lv_room (Nat.le_of_ble_eq_true rfl)) dX10_areWell_139 ⟨Nat.le_of_ble_eq_true rfl, Nat.le_of_ble_eq_true rfl⟩) hS (fun _ h => h) (fun r_37 H locs hp_38 hG hS o_39 => ?_)
        have hp_38 : (r_37 = 1 ∧ 0 ≤ a3.toInt ∧ a3.toInt ≤ 1000000) ∨ (r_37 = 0 ∧ (a3.toInt < 0 ∨ 1000000 < a3.toInt)) := hp_38
        rcases hp_38 with ⟨rfl, p_41, p_42⟩ | ⟨rfl, p_43⟩
        · skip
          refine lv_if_eq (tgt := 149) hx hb dX10_areWell_142 (by decide) (fun q => absurd q (by decide)) (fun _ => ?_)
          refine lv_iconst (v := 1) hx hb dX10_areWell_145 (by decide) ?_
          refine lv_goto (tgt := 150) hx hb dX10_areWell_146 (by decide) ?_
          refine lv_pc (pc2 := 150) rfl ?_
          have zi_1 : (1 : Int32).toInt = 1 := by decide
          exact ty_zret hx hb hr hlk rfl hG hS (Or.inl ⟨rfl, ⟨fun q => by omega, fun q => by omega⟩⟩) dX10_areWell_150
        · skip
          refine lv_if_eq (tgt := 149) hx hb dX10_areWell_142 (by decide) (fun _ => ?_) (fun q => absurd (by decide) q)
          refine lv_iconst (v := 0) hx hb dX10_areWell_149 (by decide) ?_
          have zi_0 : (0 : Int32).toInt = 0 := by decide
          exact ty_zret hx hb hr hlk rfl hG hS (Or.inr rfl) dX10_areWell_150
      · skip
        refine lv_if_eq (tgt := 149) hx hb dX10_areWell_130 (by decide) (fun _ => ?_) (fun q => absurd (by decide) q)
        refine lv_iconst (v := 0) hx hb dX10_areWell_149 (by decide) ?_
        have zi_0 : (0 : Int32).toInt = 0 := by decide
        exact ty_zret hx hb hr hlk rfl hG hS (Or.inr rfl) dX10_areWell_150
    · skip
      refine lv_if_eq (tgt := 149) hx hb dX10_areWell_119 (by decide) (fun _ => ?_) (fun q => absurd (by decide) q)
      refine lv_pc (pc2 := 149) rfl ?_
      refine lv_iconst (v := 0) hx hb dX10_areWell_149 (by decide) ?_
      have zi_0 : (0 : Int32).toInt = 0 := by decide
      exact ty_zret hx hb hr hlk rfl hG hS (Or.inr rfl) dX10_areWell_150
  by_cases k_44 : a0.toInt = 109
  · refine lv_tableIn (tgt := 151) hx hb dX10_areWell_1 (by rw [k_44]; decide) (by rw [k_44]; decide) (by rw [k_44]; rfl) (by decide) ?_
    refine lv_iload_n hx hb dX10_areWell_151 rfl (lv_at hl 1 rfl) ?_
    refine lv_i2l (v := a1.toInt64) hx hb dX10_areWell_152 rfl ?_
    refine lv_lconst (v := 0) hx hb dX10_areWell_153 (by decide) ?_
    refine lv_ldc2 hx hb hown (hts (.constantLong RX10 101 (1000)) (List.mem_of_getElem? (i := 1) rfl)) dX10_areWell_154 ?_
    have zl_0 : (0 : Int64).toInt = 0 := by decide
    have zl_1000 : (1000 : Int64).toInt = 1000 := by decide
    refine ty_calli (W.runS (As := [.long a1.toInt64, .long 0, .long 1000]) (rest := []) ⟨hx, hb, hml, hown, hts⟩ (m_X10_in l D t cI cL cC gC gE gW gA gT gI gS gM K F S N gH gJ ge gk gf gs gg gr RN a1.toInt64 0 1000 a1.toInt 0 1000 uq (q_i2l _) (by decide) (by decide) ) (va_cwS 3 hts gu_X10_areWell_X10_in_85 rfl rfl rfl (by decide +kernel) ⟨Nat.le_of_ble_eq_true rfl, Nat.le_of_ble_eq_true rfl⟩) (tP_S hG hE) rfl rfl hl.1 rfl (lv_room (Nat.le_of_ble_eq_true rfl)) dX10_areWell_157 ⟨Nat.le_of_ble_eq_true rfl, Nat.le_of_ble_eq_true rfl⟩) hS (fun _ h => h) (fun r_45 H locs hp_46 hG hS o_47 => ?_)
    have hp_46 : (r_45 = 1 ∧ 0 ≤ a1.toInt ∧ a1.toInt ≤ 1000) ∨ (r_45 = 0 ∧ (a1.toInt < 0 ∨ 1000 < a1.toInt)) := hp_46
    rcases hp_46 with ⟨rfl, p_49, p_50⟩ | ⟨rfl, p_51⟩
    · skip
      have zi_1 : (1 : Int32).toInt = 1 := by decide
      exact ty_zret hx hb hr hlk rfl hG hS (Or.inl ⟨rfl, ⟨fun q => by omega, fun q => by omega⟩⟩) dX10_areWell_160
    · skip
      refine lv_pc (pc2 := 160) rfl ?_
      have zi_0 : (0 : Int32).toInt = 0 := by decide
      exact ty_zret hx hb hr hlk rfl hG hS (Or.inr rfl) dX10_areWell_160
  by_cases k_52 : a0.toInt = 110
  · refine lv_tableIn (tgt := 181) hx hb dX10_areWell_1 (by rw [k_52]; decide) (by rw [k_52]; decide) (by rw [k_52]; rfl) (by decide) ?_
    refine lv_iload_n hx hb dX10_areWell_181 rfl (lv_at hl 1 rfl) ?_
    refine lv_i2l (v := a1.toInt64) hx hb dX10_areWell_182 rfl ?_
    refine lv_lconst (v := 0) hx hb dX10_areWell_183 (by decide) ?_
    refine lv_ldc2 hx hb hown (hts (.constantLong RX10 107 (100)) (List.mem_of_getElem? (i := 7) rfl)) dX10_areWell_184 ?_
    have zl_0 : (0 : Int64).toInt = 0 := by decide
    have zl_100 : (100 : Int64).toInt = 100 := by decide
    refine ty_calli (W.runS (As := [.long a1.toInt64, .long 0, .long 100]) (rest := []) ⟨hx, hb, hml, hown, hts⟩ (m_X10_in l D t cI cL cC gC gE gW gA gT gI gS gM K F S N gH gJ ge gk gf gs gg gr RN a1.toInt64 0 100 a1.toInt 0 100 uq (q_i2l _) (by decide) (by decide) ) (va_cwS 3 hts gu_X10_areWell_X10_in_85 rfl rfl rfl (by decide +kernel) ⟨Nat.le_of_ble_eq_true rfl, Nat.le_of_ble_eq_true rfl⟩) (tP_S hG hE) rfl rfl hl.1 rfl (lv_room (Nat.le_of_ble_eq_true rfl)) dX10_areWell_187 ⟨Nat.le_of_ble_eq_true rfl, Nat.le_of_ble_eq_true rfl⟩) hS (fun _ h => h) (fun r_53 H locs hp_54 hG hS o_55 => ?_)
    have hp_54 : (r_53 = 1 ∧ 0 ≤ a1.toInt ∧ a1.toInt ≤ 100) ∨ (r_53 = 0 ∧ (a1.toInt < 0 ∨ 100 < a1.toInt)) := hp_54
    rcases hp_54 with ⟨rfl, p_57, p_58⟩ | ⟨rfl, p_59⟩
    · skip
      have zi_1 : (1 : Int32).toInt = 1 := by decide
      exact ty_zret hx hb hr hlk rfl hG hS (Or.inl ⟨rfl, ⟨fun q => by omega, fun q => by omega⟩⟩) dX10_areWell_190
    · skip
      have zi_0 : (0 : Int32).toInt = 0 := by decide
      exact ty_zret hx hb hr hlk rfl hG hS (Or.inr rfl) dX10_areWell_190
  by_cases k_60 : a0.toInt = 111
  · refine lv_tableIn (tgt := 191) hx hb dX10_areWell_1 (by rw [k_60]; decide) (by rw [k_60]; decide) (by rw [k_60]; rfl) (by decide) ?_
    refine lv_pc (pc2 := 191) rfl ?_
    refine lv_iconst (v := 1) hx hb dX10_areWell_191 (by decide) ?_
    have zi_1 : (1 : Int32).toInt = 1 := by decide
    exact ty_zret hx hb hr hlk rfl hG hS (Or.inl ⟨rfl, ⟨fun q => by omega, fun q => by omega⟩⟩) dX10_areWell_192
  by_cases k_61 : a0.toInt = 112
  · refine lv_tableIn (tgt := 191) hx hb dX10_areWell_1 (by rw [k_61]; decide) (by rw [k_61]; decide) (by rw [k_61]; rfl) (by decide) ?_
    refine lv_iconst (v := 1) hx hb dX10_areWell_191 (by decide) ?_
    have zi_1 : (1 : Int32).toInt = 1 := by decide
    exact ty_zret hx hb hr hlk rfl hG hS (Or.inl ⟨rfl, ⟨fun q => by omega, fun q => by omega⟩⟩) dX10_areWell_192
  by_cases k_62 : a0.toInt = 113
  · refine lv_tableIn (tgt := 191) hx hb dX10_areWell_1 (by rw [k_62]; decide) (by rw [k_62]; decide) (by rw [k_62]; rfl) (by decide) ?_
    refine lv_iconst (v := 1) hx hb dX10_areWell_191 (by decide) ?_
    have zi_1 : (1 : Int32).toInt = 1 := by decide
    exact ty_zret hx hb hr hlk rfl hG hS (Or.inl ⟨rfl, ⟨fun q => by omega, fun q => by omega⟩⟩) dX10_areWell_192
  by_cases k_63 : a0.toInt = 114
  · refine lv_tableIn (tgt := 181) hx hb dX10_areWell_1 (by rw [k_63]; decide) (by rw [k_63]; decide) (by rw [k_63]; rfl) (by decide) ?_
    refine lv_iload_n hx hb dX10_areWell_181 rfl (lv_at hl 1 rfl) ?_
    refine lv_i2l (v := a1.toInt64) hx hb dX10_areWell_182 rfl ?_
    refine lv_pc (pc2 := 183) rfl ?_
    refine lv_lconst (v := 0) hx hb dX10_areWell_183 (by decide) ?_
    refine lv_ldc2 hx hb hown (hts (.constantLong RX10 107 (100)) (List.mem_of_getElem? (i := 7) rfl)) dX10_areWell_184 ?_
    have zl_0 : (0 : Int64).toInt = 0 := by decide
    have zl_100 : (100 : Int64).toInt = 100 := by decide
    refine ty_calli (W.runS (As := [.long a1.toInt64, .long 0, .long 100]) (rest := []) ⟨hx, hb, hml, hown, hts⟩ (m_X10_in l D t cI cL cC gC gE gW gA gT gI gS gM K F S N gH gJ ge gk gf gs gg gr RN a1.toInt64 0 100 a1.toInt 0 100 uq (q_i2l _) (by decide) (by decide) ) (va_cwS 3 hts gu_X10_areWell_X10_in_85 rfl rfl rfl (by decide +kernel) ⟨Nat.le_of_ble_eq_true rfl, Nat.le_of_ble_eq_true rfl⟩) (tP_S hG hE) rfl rfl hl.1 rfl (lv_room (Nat.le_of_ble_eq_true rfl)) dX10_areWell_187 ⟨Nat.le_of_ble_eq_true rfl, Nat.le_of_ble_eq_true rfl⟩) hS (fun _ h => h) (fun r_64 H locs hp_65 hG hS o_66 => ?_)
    have hp_65 : (r_64 = 1 ∧ 0 ≤ a1.toInt ∧ a1.toInt ≤ 100) ∨ (r_64 = 0 ∧ (a1.toInt < 0 ∨ 100 < a1.toInt)) := hp_65
    rcases hp_65 with ⟨rfl, p_68, p_69⟩ | ⟨rfl, p_70⟩
    · skip
      have zi_1 : (1 : Int32).toInt = 1 := by decide
      exact ty_zret hx hb hr hlk rfl hG hS (Or.inl ⟨rfl, ⟨fun q => by omega, fun q => by omega⟩⟩) dX10_areWell_190
    · skip
      have zi_0 : (0 : Int32).toInt = 0 := by decide
      exact ty_zret hx hb hr hlk rfl hG hS (Or.inr rfl) dX10_areWell_190
  by_cases k_71 : a0.toInt = 115
  · refine lv_tableIn (tgt := 80) hx hb dX10_areWell_1 (by rw [k_71]; decide) (by rw [k_71]; decide) (by rw [k_71]; rfl) (by decide) ?_
    refine lv_iload_n hx hb dX10_areWell_80 rfl (lv_at hl 1 rfl) ?_
    refine lv_i2l (v := a1.toInt64) hx hb dX10_areWell_81 rfl ?_
    refine lv_lconst (v := 0) hx hb dX10_areWell_82 (by decide) ?_
    refine lv_pc (pc2 := 83) rfl ?_
    refine lv_ldc2 hx hb hown (hts (.constantLong RX10 99 (1000000)) (List.mem_of_getElem? (i := 6) rfl)) dX10_areWell_83 ?_
    have zl_0 : (0 : Int64).toInt = 0 := by decide
    have zl_1000000 : (1000000 : Int64).toInt = 1000000 := by decide
    refine ty_calli (W.runS (As := [.long a1.toInt64, .long 0, .long 1000000]) (rest := []) ⟨hx, hb, hml, hown, hts⟩ (m_X10_in l D t cI cL cC gC gE gW gA gT gI gS gM K F S N gH gJ ge gk gf gs gg gr RN a1.toInt64 0 1000000 a1.toInt 0 1000000 uq (q_i2l _) (by decide) (by decide) ) (va_cwS 3 hts gu_X10_areWell_X10_in_85 rfl rfl rfl (by decide +kernel) ⟨Nat.le_of_ble_eq_true rfl, Nat.le_of_ble_eq_true rfl⟩) (tP_S hG hE) rfl rfl hl.1 rfl (lv_room (Nat.le_of_ble_eq_true rfl)) dX10_areWell_86 ⟨Nat.le_of_ble_eq_true rfl, Nat.le_of_ble_eq_true rfl⟩) hS (fun _ h => h) (fun r_72 H locs hp_73 hG hS o_74 => ?_)
    have hp_73 : (r_72 = 1 ∧ 0 ≤ a1.toInt ∧ a1.toInt ≤ 1000000) ∨ (r_72 = 0 ∧ (a1.toInt < 0 ∨ 1000000 < a1.toInt)) := hp_73
    rcases hp_73 with ⟨rfl, p_76, p_77⟩ | ⟨rfl, p_78⟩
    · skip
      refine lv_if_eq (tgt := 108) hx hb dX10_areWell_89 (by decide) (fun q => absurd q (by decide)) (fun _ => ?_)
      refine lv_iload_n hx hb dX10_areWell_92 rfl (lv_at hl 2 rfl) ?_
      refine lv_i2l (v := a2.toInt64) hx hb dX10_areWell_93 rfl ?_
      refine lv_lconst (v := 0) hx hb dX10_areWell_94 (by decide) ?_
      refine lv_ldc2 hx hb hown (hts (.constantLong RX10 99 (1000000)) (List.mem_of_getElem? (i := 6) rfl)) dX10_areWell_95 ?_
      refine ty_calli (W.runS (As := [.long a2.toInt64, .long 0, .long 1000000]) (rest := []) ⟨hx, hb, hml, hown, hts⟩ (m_X10_in l D t cI cL cC gC gE gW gA gT gI gS gM K F S N gH gJ ge gk gf gs gg gr RN a2.toInt64 0 1000000 a2.toInt 0 1000000 uq (q_i2l _) (by decide) (by decide) ) (va_cwS 3 hts gu_X10_areWell_X10_in_85 rfl rfl rfl (by decide +kernel) ⟨Nat.le_of_ble_eq_true rfl, Nat.le_of_ble_eq_true rfl⟩) (tP_S hG hE) rfl rfl hl.1 rfl (lv_room (Nat.le_of_ble_eq_true rfl)) dX10_areWell_98 ⟨Nat.le_of_ble_eq_true rfl, Nat.le_of_ble_eq_true rfl⟩) hS (fun _ h => h) (fun r_79 H locs hp_80 hG hS o_81 => ?_)
      have hp_80 : (r_79 = 1 ∧ 0 ≤ a2.toInt ∧ a2.toInt ≤ 1000000) ∨ (r_79 = 0 ∧ (a2.toInt < 0 ∨ 1000000 < a2.toInt)) := hp_80
      rcases hp_80 with ⟨rfl, p_83, p_84⟩ | ⟨rfl, p_85⟩
      · skip
        refine lv_pc (pc2 := 101) rfl ?_
        refine lv_if_eq (tgt := 108) hx hb dX10_areWell_101 (by decide) (fun q => absurd q (by decide)) (fun _ => ?_)
        refine lv_iconst (v := 1) hx hb dX10_areWell_104 (by decide) ?_
        refine lv_goto (tgt := 109) hx hb dX10_areWell_105 (by decide) ?_
        have zi_1 : (1 : Int32).toInt = 1 := by decide
        exact ty_zret hx hb hr hlk rfl hG hS (Or.inl ⟨rfl, ⟨fun q => by omega, fun q => by omega⟩⟩) dX10_areWell_109
      · skip
        refine lv_if_eq (tgt := 108) hx hb dX10_areWell_101 (by decide) (fun _ => ?_) (fun q => absurd (by decide) q)
        refine lv_iconst (v := 0) hx hb dX10_areWell_108 (by decide) ?_
        have zi_0 : (0 : Int32).toInt = 0 := by decide
        exact ty_zret hx hb hr hlk rfl hG hS (Or.inr rfl) dX10_areWell_109
    · skip
      refine lv_if_eq (tgt := 108) hx hb dX10_areWell_89 (by decide) (fun _ => ?_) (fun q => absurd (by decide) q)
      refine lv_pc (pc2 := 108) rfl ?_
      refine lv_iconst (v := 0) hx hb dX10_areWell_108 (by decide) ?_
      have zi_0 : (0 : Int32).toInt = 0 := by decide
      exact ty_zret hx hb hr hlk rfl hG hS (Or.inr rfl) dX10_areWell_109
  by_cases k_86 : a0.toInt = 116
  · refine lv_tableIn (tgt := 171) hx hb dX10_areWell_1 (by rw [k_86]; decide) (by rw [k_86]; decide) (by rw [k_86]; rfl) (by decide) ?_
    refine lv_iload_n hx hb dX10_areWell_171 rfl (lv_at hl 1 rfl) ?_
    refine lv_i2l (v := a1.toInt64) hx hb dX10_areWell_172 rfl ?_
    refine lv_lconst (v := 1) hx hb dX10_areWell_173 (by decide) ?_
    refine lv_ldc2 hx hb hown (hts (.constantLong RX10 105 (12)) (List.mem_of_getElem? (i := 8) rfl)) dX10_areWell_174 ?_
    have zl_1 : (1 : Int64).toInt = 1 := by decide
    have zl_12 : (12 : Int64).toInt = 12 := by decide
    refine ty_calli (W.runS (As := [.long a1.toInt64, .long 1, .long 12]) (rest := []) ⟨hx, hb, hml, hown, hts⟩ (m_X10_in l D t cI cL cC gC gE gW gA gT gI gS gM K F S N gH gJ ge gk gf gs gg gr RN a1.toInt64 1 12 a1.toInt 1 12 uq (q_i2l _) (by decide) (by decide) ) (va_cwS 3 hts gu_X10_areWell_X10_in_85 rfl rfl rfl (by decide +kernel) ⟨Nat.le_of_ble_eq_true rfl, Nat.le_of_ble_eq_true rfl⟩) (tP_S hG hE) rfl rfl hl.1 rfl (lv_room (Nat.le_of_ble_eq_true rfl)) dX10_areWell_177 ⟨Nat.le_of_ble_eq_true rfl, Nat.le_of_ble_eq_true rfl⟩) hS (fun _ h => h) (fun r_87 H locs hp_88 hG hS o_89 => ?_)
    have hp_88 : (r_87 = 1 ∧ 1 ≤ a1.toInt ∧ a1.toInt ≤ 12) ∨ (r_87 = 0 ∧ (a1.toInt < 1 ∨ 12 < a1.toInt)) := hp_88
    rcases hp_88 with ⟨rfl, p_91, p_92⟩ | ⟨rfl, p_93⟩
    · skip
      have zi_1 : (1 : Int32).toInt = 1 := by decide
      exact ty_zret hx hb hr hlk rfl hG hS (Or.inl ⟨rfl, ⟨fun q => by omega, fun q => by omega⟩⟩) dX10_areWell_180
    · skip
      refine lv_pc (pc2 := 180) rfl ?_
      have zi_0 : (0 : Int32).toInt = 0 := by decide
      exact ty_zret hx hb hr hlk rfl hG hS (Or.inr rfl) dX10_areWell_180
  refine lv_tableOut (tgt := 191) hx hb dX10_areWell_1 (by omega) (by decide) ?_
  refine lv_iconst (v := 1) hx hb dX10_areWell_191 (by decide) ?_
  have zi_1 : (1 : Int32).toInt = 1 := by decide
  exact ty_zret hx hb hr hlk rfl hG hS (Or.inl ⟨rfl, ⟨fun q => by omega, fun q => by omega⟩⟩) dX10_areWell_192

def uX10_byteAt : List Cond := .code yX10_byteAt cX10_byteAt 2 (some .int) :: ([.fieldLink RX10 89 "RiverModelModel" "length" "I", .fieldLink RX10 7 "RiverModelModel" "text" "[I"] ++ wsX100)
set_option maxHeartbeats 4000000 in
set_option maxRecDepth 100000 in
theorem m_X10_byteAt (l : Launch) (D : va_G) (t : Nat → Nat) (cI cL cC : ClassId) (gC : Int32) (gE : Int32) (gW : Nat → Int32) (gA : Nat → Int32) (gT : Nat → Int32) (gI : Int32) (gS : Int32) (gM : Int32) (K : Nat → Int32) (F : Nat → Int32) (S : Nat → Int32) (N : Nat → Int32) (gH : Int) (gJ : Int) (ge : Int32) (gk : Int32) (gf : Int32) (gs : Int32) (gg : Int32) (gr : Int32) (RN : Nat → Int32) (a0 : Nat) (a1 : Int32) (uq : ∀ b c : Nat, t b = t c → t b ≠ 0 → b = c) (hC0 : 0 ≤ gC.toInt) (hC4 : gC.toInt ≤ 400) (h0 : 0 ≤ a1.toInt) (k_a0 : t a0 = 40) : tM l yX10_byteAt uX10_byteAt 0 0 D (mF cI cL cC gC gE gW gA gT gI gS gM K F S N gH gJ ge gk gf gs gg gr RN) (mF cI cL cC gC gE gW gA gT gI gS gM K F S N gH gJ ge gk gf gs gg gr RN) t cI cL cC [.ref a0, .int a1] wr0 (pI (fun r => r = bA gT gC a1 ∧ r.toInt = (bA gT gC a1).toInt)) := by
  refine tM.ofW (cc := cX10_byteAt) (maxL := 2) (ret := (some .int)) (by decide) rfl (Nat.le_of_ble_eq_true rfl) ?_
  intro p e s m below meth c hx hb hr hml hown hts hlk H locs hG hK hE hS ls hl
  have hl : lv_has ls 2 [(0, .ref a0), (1, .int a1)] := hl
  have in10 : ∀ w ∈ wsX100, w ∈ uX10_byteAt := fun w h => List.mem_cons_of_mem _ (List.mem_append_right _ h)
  refine lv_iload_n hx hb dX10_byteAt_0 rfl (lv_at hl 1 rfl) ?_
  refine lv_aload_n hx hb dX10_byteAt_1 rfl (lv_at hl 0 rfl) ?_
  obtain ⟨r_1, v_3, r_4, r_6, r_8, r_10, r_12, r_14, r_16, r_18, r_20, r_22, r_24, r_26, r_28, r_30, r_32, r_34, r_36, r_38, r_40, r_42, r_44, v_46, r_47, at_49, h_2, h_5, h_7, h_9, h_11, h_13, h_15, h_17, h_19, h_21, h_23, h_25, h_27, h_29, h_31, h_33, h_35, h_37, h_39, h_41, h_43, h_45, h_48⟩ := mF_o40 hG k_a0
  refine va_get (D := D) (ci := 9) (v := .int gC) (C := RX10) (T := TX10) (N := 36) hx hb hts in10 hown hK (va_one at_49) 0 rfl rfl 0 (by decide) (hts (.fieldLink RX10 89 "RiverModelModel" "length" "I") (List.mem_of_getElem? (i := 1) rfl)) (fun _ h9 => h9) rfl dX10_byteAt_2 ?_
  refine lv_icmp_ge (tgt := 17) hx hb dX10_byteAt_5 (by decide) (fun c_50 => ?_) (fun c_50 => ?_)
  · skip
    have c_50 : gC.toInt ≤ a1.toInt := q_le c_50
    refine lv_iconst (v := (-1)) hx hb dX10_byteAt_17 (by decide) ?_
    have zi_m1 : ((-1) : Int32).toInt = (-1) := by decide
    exact ty_iret hx hb hr hlk hG hS ⟨(by show ((-1) : Int32) = bA gT gC a1; unfold bA; rw [if_neg (by omega)]), (by show ((-1) : Int32).toInt = (bA gT gC a1).toInt; unfold bA; rw [if_neg (by omega)])⟩ dX10_byteAt_18
  · skip
    have c_50 : a1.toInt < gC.toInt := q_nle c_50
    refine lv_aload_n hx hb dX10_byteAt_8 rfl (lv_at hl 0 rfl) ?_
    refine lv_pc (pc2 := 9) rfl ?_
    refine va_get (D := D) (ci := 9) (v := .ref r_1) (C := RX10) (T := TX10) (N := 36) hx hb hts in10 hown hK (va_one at_49) 0 rfl rfl 1 (by decide) (hts (.fieldLink RX10 7 "RiverModelModel" "text" "[I") (List.mem_of_getElem? (i := 2) rfl)) (fun _ h9 => h9) rfl dX10_byteAt_9 ?_
    refine lv_iload_n hx hb dX10_byteAt_12 rfl (lv_at hl 1 rfl) ?_
    have at_51 := mF_o41 hG h_2
    have b_52 : vp_in a1 400 := (q_in (by omega) (by omega))
    refine va_iald hx hb hK (va_one at_51) 0 0 rfl rfl b_52 dX10_byteAt_13 ?_
    refine lv_topi (fun x_53 e_54 => ?_)
    have w_x_53 : x_53 = gT (a1.toInt).toNat := by rw [e_54]; exact congrArg (fun q : Int => gT q.toNat) (show a1.toInt = a1.toInt by omega)
    have i_x_53 : x_53.toInt = (gT (a1.toInt).toNat).toInt := by rw [w_x_53]
    refine lv_goto (tgt := 18) hx hb dX10_byteAt_14 (by decide) ?_
    exact ty_iret hx hb hr hlk hG hS ⟨(by show x_53 = bA gT gC a1; rw [w_x_53]; unfold bA; rw [if_pos (by omega)]; rfl), (by show x_53.toInt = (bA gT gC a1).toInt; rw [w_x_53]; unfold bA; rw [if_pos (by omega)]; rfl)⟩ dX10_byteAt_18

def uX10_readsNumber : List Cond := .code yX10_readsNumber cX10_readsNumber 3 (some .boolean) :: ([.fieldLink RX10 109 "RiverModelModel" "end" "I", .methodLink RX10 112 yX10_byteAt, .instanceMethod yX10_byteAt, .selects RX10 yX10_byteAt yX10_byteAt, .initialized RX10, .fieldLink RX10 116 "RiverModelModel" "figures" "I", .fieldLink RX10 74 "RiverModelModel" "readNumber" "[I", .constantLong RX10 123 (7), .methodLink RX10 85 yX10_in, .static yX10_in, .constantLong RX10 119 (48), .constantLong RX10 121 (57), .code yX10_byteAt cX10_byteAt 2 (some .int), .fieldLink RX10 89 "RiverModelModel" "length" "I", .fieldLink RX10 7 "RiverModelModel" "text" "[I", .code yX10_in cX10_in 6 (some .boolean)] ++ wsX100)
set_option maxRecDepth 20000 in
theorem gu_X10_readsNumber_X10_byteAt_112 : GoodIn uX10_readsNumber (wsV RX10 112 RX10 yX10_byteAt uX10_byteAt) := goodIn_r _ [2, 3, 4, 5, 13, 14, 15, 17, 18, 19, 20, 21, 22, 23, 24, 25, 26, 27, 28, 29, 30, 31, 32, 33, 34, 35, 36, 37, 38, 39, 40, 41, 42, 43, 44, 45, 46, 47, 48, 49, 50, 51, 52] rfl (by decide +kernel)
set_option maxRecDepth 20000 in
theorem gu_X10_readsNumber_X10_in_85 : GoodIn uX10_readsNumber (va_wsS RX10 85 yX10_in uX10_in) := goodIn_r _ [9, 10, 5, 16] rfl (by decide +kernel)
set_option maxHeartbeats 4000000 in
set_option maxRecDepth 100000 in
theorem m_X10_readsNumber (l : Launch) (D : va_G) (t : Nat → Nat) (cI cL cC : ClassId) (gC : Int32) (gE : Int32) (gW : Nat → Int32) (gA : Nat → Int32) (gT : Nat → Int32) (gI : Int32) (gS : Int32) (gM : Int32) (K : Nat → Int32) (F : Nat → Int32) (S : Nat → Int32) (N : Nat → Int32) (gH : Int) (gJ : Int) (ge : Int32) (gk : Int32) (gf : Int32) (gs : Int32) (gg : Int32) (gr : Int32) (RN : Nat → Int32) (a0 : Nat) (a1 : Int32) (uq : ∀ b c : Nat, t b = t c → t b ≠ 0 → b = c) (hC0 : 0 ≤ gC.toInt) (hC4 : gC.toInt ≤ 400) (h0 : 0 ≤ a1.toInt) (h2 : a1.toInt ≤ 2) (he0 : 0 ≤ ge.toInt) (he9 : ge.toInt ≤ 900) (k_a0 : t a0 = 40) : tMx (Z := (Int32) × (Int32) × (Nat → Int32)) l yX10_readsNumber uX10_readsNumber 1 25 D (mF cI cL cC gC gE gW gA gT gI gS gM K F S N gH gJ ge gk gf gs gg gr RN) (fun z => (mF cI cL cC gC gE gW gA gT gI gS gM K F S N gH gJ z.1 gk gf gs z.2.1 gr z.2.2)) t cI cL cC [.ref a0, .int a1] wP (xI (fun r (z : (Int32) × (Int32) × (Nat → Int32)) => (r = 1 ∧ ge.toInt < z.1.toInt ∧ z.1.toInt ≤ ge.toInt + 9) ∨ (r = 0))) := by
  refine tMx.ofW (cc := cX10_readsNumber) (maxL := 3) (ret := (some .boolean)) (by decide) rfl (Nat.le_of_ble_eq_true rfl) ?_
  intro p e s m below meth c hx hb hr hml hown hts hlk H locs hG hK hE hS ls hl
  have hl : lv_has ls 3 [(0, .ref a0), (1, .int a1)] := hl
  have in10 : ∀ w ∈ wsX100, w ∈ uX10_readsNumber := fun w h => List.mem_cons_of_mem _ (List.mem_append_right _ h)
  refine lv_aload_n hx hb dX10_readsNumber_0 rfl (lv_at hl 0 rfl) ?_
  refine lv_aload_n hx hb dX10_readsNumber_1 rfl (lv_at hl 0 rfl) ?_
  obtain ⟨r_1, v_3, r_4, r_6, r_8, r_10, r_12, r_14, r_16, r_18, r_20, r_22, r_24, r_26, r_28, r_30, r_32, r_34, r_36, r_38, r_40, r_42, r_44, v_46, r_47, at_49, h_2, h_5, h_7, h_9, h_11, h_13, h_15, h_17, h_19, h_21, h_23, h_25, h_27, h_29, h_31, h_33, h_35, h_37, h_39, h_41, h_43, h_45, h_48⟩ := mF_o40 hG k_a0
  refine va_get (D := D) (ci := 9) (v := .int ge) (C := RX10) (T := TX10) (N := 36) hx hb hts in10 hown hK (va_one at_49) 0 rfl rfl 27 (by decide) (hts (.fieldLink RX10 109 "RiverModelModel" "end" "I") (List.mem_of_getElem? (i := 1) rfl)) (fun _ h9 => h9) rfl dX10_readsNumber_2 ?_
  refine ty_calli (W.runV (As := [.int ge]) (rest := []) ⟨hx, hb, hml, hown, hts⟩ (m_X10_byteAt l D t cI cL cC gC gE gW gA gT gI gS gM K F S N gH gJ ge gk gf gs gg gr RN a0 ge  uq (by omega) (by omega) (by omega) k_a0) (cwV 1 hts gu_X10_readsNumber_X10_byteAt_112 rfl rfl rfl (by decide +kernel) ⟨Nat.le_of_ble_eq_true rfl, Nat.le_of_ble_eq_true rfl⟩) (tP_V hG hE at_49 rfl) rfl rfl hl.1 rfl (lv_room (Nat.le_of_ble_eq_true rfl)) dX10_readsNumber_5 ⟨Nat.le_of_ble_eq_true rfl, Nat.le_of_ble_eq_true rfl⟩) hS (fun k h => by simp [wr0] at h) (fun r_50 H locs hp_51 hG hS o_52 => ?_)
  have at_49 := va_at.keptC at_49 o_52 k_a0 rfl
  have hp_51 : r_50 = bA gT gC ge ∧ r_50.toInt = (bA gT gC ge).toInt := hp_51
  obtain ⟨p_54, p_55⟩ := hp_51
  refine lv_bipush (v := 44) hx hb dX10_readsNumber_8 (by decide) ?_
  refine lv_icmp_eq (tgt := 15) hx hb dX10_readsNumber_10 (by decide) (fun c_56 => ?_) (fun c_56 => ?_)
  · skip
    have c_56 : r_50.toInt = 44 := q_eq c_56
    refine lv_aload_n hx hb dX10_readsNumber_15 rfl (lv_at hl 0 rfl) ?_
    refine lv_pc (pc2 := 16) rfl ?_
    refine lv_dup hx hb dX10_readsNumber_16 rfl ?_
    refine va_get (D := D) (ci := 9) (v := .int ge) (C := RX10) (T := TX10) (N := 36) hx hb hts in10 hown hK (va_one at_49) 0 rfl rfl 27 (by decide) (hts (.fieldLink RX10 109 "RiverModelModel" "end" "I") (List.mem_of_getElem? (i := 1) rfl)) (fun _ h9 => h9) rfl dX10_readsNumber_17 ?_
    refine lv_iconst (v := 1) hx hb dX10_readsNumber_20 (by decide) ?_
    refine lv_iadd hx hb dX10_readsNumber_21 ?_
    refine lv_topi (fun x_57 e_58 => ?_)
    have i_x_57 : x_57.toInt = ge.toInt + 1 := by rw [e_58]; exact (q_add (by rw [show (1 : Int32).toInt = 1 by decide]; omega) (by rw [show (1 : Int32).toInt = 1 by decide]; omega)).trans (by rw [show (1 : Int32).toInt = 1 by decide])
    refine ty_put (D := D) (ci := 9) (v := .int x_57) (ty := .int) (C := RX10) (T := TX10) (N := 36) (F2 := (mF cI cL cC gC gE gW gA gT gI gS gM K F S N gH gJ x_57 gk gf gs gg gr RN)) hx hb hts in10 tyX10 tyX10_ok nmX10 hown hK hG hS at_49 (by rw [k_a0]; rfl) rfl 27 (by decide) (hts (.fieldLink RX10 109 "RiverModelModel" "end" "I") (List.mem_of_getElem? (i := 1) rfl)) (fun _ h9 => h9) rfl (by decide +kernel) rfl rfl (Nat.le_of_ble_eq_true rfl) (by rw [k_a0]; exact ⟨r_1, v_3, r_4, r_6, r_8, r_10, r_12, r_14, r_16, r_18, r_20, r_22, r_24, r_26, r_28, r_30, r_32, r_34, r_36, r_38, r_40, r_42, r_44, v_46, r_47, rfl, h_2, h_5, h_7, h_9, h_11, h_13, h_15, h_17, h_19, h_21, h_23, h_25, h_27, h_29, h_31, h_33, h_35, h_37, h_39, h_41, h_43, h_45, h_48⟩) (fun hG b hb h0 => by obtain ⟨e, g1, g2⟩ := hG b h0; exact ⟨e, g1, mF_ge (fun h => hb (uq b a0 (h.trans k_a0.symm) h0)) g2⟩) dX10_readsNumber_22 (fun H locs hG hS at_59 o_60 => ?_)
    have at_59 : va_at D vwCl (a0, .inr (9, [.int gC, .ref r_1, .int v_3, .int gI, .ref r_4, .ref r_6, .ref r_8, .ref r_10, .int gS, .ref r_12, .ref r_14, .ref r_16, .ref r_18, .int gM, .ref r_20, .ref r_22, .ref r_24, .int gE, .ref r_26, .ref r_28, .ref r_30, .ref r_32, .ref r_34, .ref r_36, .ref r_38, .ref r_40, .ref r_42, .int x_57, .int gk, .int gf, .int gs, .int gg, .ref r_44, .int gr, .int v_46, .ref r_47])) H := at_59
    refine lv_aload_n hx hb dX10_readsNumber_25 rfl (lv_at hl 0 rfl) ?_
    refine lv_iconst (v := 0) hx hb dX10_readsNumber_26 (by decide) ?_
    have zi_0 : (0 : Int32).toInt = 0 := by decide
    refine ty_put (D := D) (ci := 9) (v := .int 0) (ty := .int) (C := RX10) (T := TX10) (N := 36) (F2 := (mF cI cL cC gC gE gW gA gT gI gS gM K F S N gH gJ x_57 gk gf gs 0 gr RN)) hx hb hts in10 tyX10 tyX10_ok nmX10 hown hK hG hS at_59 (by rw [k_a0]; rfl) rfl 31 (by decide) (hts (.fieldLink RX10 116 "RiverModelModel" "figures" "I") (List.mem_of_getElem? (i := 6) rfl)) (fun _ h9 => h9) rfl (by decide +kernel) rfl rfl (Nat.le_of_ble_eq_true rfl) (by rw [k_a0]; exact ⟨r_1, v_3, r_4, r_6, r_8, r_10, r_12, r_14, r_16, r_18, r_20, r_22, r_24, r_26, r_28, r_30, r_32, r_34, r_36, r_38, r_40, r_42, r_44, v_46, r_47, rfl, h_2, h_5, h_7, h_9, h_11, h_13, h_15, h_17, h_19, h_21, h_23, h_25, h_27, h_29, h_31, h_33, h_35, h_37, h_39, h_41, h_43, h_45, h_48⟩) (fun hG b hb h0 => by obtain ⟨e, g1, g2⟩ := hG b h0; exact ⟨e, g1, mF_gg (fun h => hb (uq b a0 (h.trans k_a0.symm) h0)) g2⟩) dX10_readsNumber_27 (fun H locs hG hS at_61 o_62 => ?_)
    have at_61 : va_at D vwCl (a0, .inr (9, [.int gC, .ref r_1, .int v_3, .int gI, .ref r_4, .ref r_6, .ref r_8, .ref r_10, .int gS, .ref r_12, .ref r_14, .ref r_16, .ref r_18, .int gM, .ref r_20, .ref r_22, .ref r_24, .int gE, .ref r_26, .ref r_28, .ref r_30, .ref r_32, .ref r_34, .ref r_36, .ref r_38, .ref r_40, .ref r_42, .int x_57, .int gk, .int gf, .int gs, .int 0, .ref r_44, .int gr, .int v_46, .ref r_47])) H := at_61
    refine lv_pc (pc2 := 30) rfl ?_
    refine lv_iconst (v := 0) hx hb dX10_readsNumber_30 (by decide) ?_
    refine lv_istore_n (lv' := [(2, .int 0), (0, .ref a0), (1, .int a1)]) hx hb dX10_readsNumber_31 rfl hl (by decide) rfl (fun ls hl => ?_)
    refine lv_pc (pc2 := 32) rfl ?_
    refine lp_gen (fun WW63 hWW63 => ?_)
    have kx63 : ∀ (yv : Int32) (e1 : Int32) (g1 : Int32) (H1 : Heap) (locs1 : List Loc) (ls1 : Array Slot), (0 ≤ g1.toInt) → (g1.toInt ≤ 8) → (e1.toInt = ge.toInt + 1 + g1.toInt) → tG D (mF cI cL cC gC gE gW gA gT gI gS gM K F S N gH gJ e1 gk gf gs g1 gr RN) t H1 → tF t wP s.heap H1 locs1 → lv_has ls1 3 [(2, .int yv), (0, .ref a0), (1, .int a1)] → WW63 H1 locs1 (F0 m 102 ls1 []) := by
      intro yv e1 g1 H locs ls v63_0 v63_1 v63_2 hG hS hl
      refine (hWW63 _ _ _).mpr ?_
      refine lv_aload_n hx hb dX10_readsNumber_102 rfl (lv_at hl 1 rfl) ?_
      obtain ⟨r_64, v_66, r_67, r_69, r_71, r_73, r_75, r_77, r_79, r_81, r_83, r_85, r_87, r_89, r_91, r_93, r_95, r_97, r_99, r_101, r_103, r_105, r_107, v_109, r_110, at_112, h_65, h_68, h_70, h_72, h_74, h_76, h_78, h_80, h_82, h_84, h_86, h_88, h_90, h_92, h_94, h_96, h_98, h_100, h_102, h_104, h_106, h_108, h_111⟩ := mF_o40 hG k_a0
      refine va_get (D := D) (ci := 9) (v := .ref r_107) (C := RX10) (T := TX10) (N := 36) hx hb hts in10 hown hK (va_one at_112) 0 rfl rfl 32 (by decide) (hts (.fieldLink RX10 74 "RiverModelModel" "readNumber" "[I") (List.mem_of_getElem? (i := 7) rfl)) (fun _ h9 => h9) rfl dX10_readsNumber_103 ?_
      refine lv_iload_n hx hb dX10_readsNumber_106 rfl (lv_at hl 2 rfl) ?_
      refine lv_iload_n hx hb dX10_readsNumber_107 rfl (lv_at hl 0 rfl) ?_
      have at_113 := mF_o62 hG h_108
      have b_114 : vp_in a1 3 := (q_in (by omega) (by omega))
      obtain ⟨q_115, eq_115⟩ : ∃ q : Nat → Int32, q = upd RN a1.toNatClampNeg yv := ⟨_, rfl⟩
      refine ty_iast (F2 := (mF cI cL cC gC gE gW gA gT gI gS gM K F S N gH gJ e1 gk gf gs g1 gr q_115)) hx hb hK hG hS 0 at_113 (by rw [h_108]; rfl) rfl b_114 (by rw [h_108]; show _ = _; rw [eq_115]) (fun hG b hb h0 => by obtain ⟨e, g1, g2⟩ := hG b h0; exact ⟨e, g1, mF_RN (fun h => hb (uq b r_107 (h.trans h_108.symm) h0)) g2⟩) dX10_readsNumber_108 (fun H locs hG hS at_116 o_117 => ?_)
      have at_112 := va_at.keptK at_112 o_117 h_108 k_a0 rfl
      refine lv_aload_n hx hb dX10_readsNumber_109 rfl (lv_at hl 1 rfl) ?_
      refine lv_pc (pc2 := 110) rfl ?_
      refine va_get (D := D) (ci := 9) (v := .int g1) (C := RX10) (T := TX10) (N := 36) hx hb hts in10 hown hK (va_one at_112) 0 rfl rfl 31 (by decide) (hts (.fieldLink RX10 116 "RiverModelModel" "figures" "I") (List.mem_of_getElem? (i := 6) rfl)) (fun _ h9 => h9) rfl dX10_readsNumber_110 ?_
      refine lv_i2l (v := g1.toInt64) hx hb dX10_readsNumber_113 rfl ?_
      refine lv_lconst (v := 1) hx hb dX10_readsNumber_114 (by decide) ?_
      refine lv_ldc2 hx hb hown (hts (.constantLong RX10 123 (7)) (List.mem_of_getElem? (i := 8) rfl)) dX10_readsNumber_115 ?_
      have zl_1 : (1 : Int64).toInt = 1 := by decide
      have zl_7 : (7 : Int64).toInt = 7 := by decide
      refine ty_calli (W.runS (As := [.long g1.toInt64, .long 1, .long 7]) (rest := []) ⟨hx, hb, hml, hown, hts⟩ (m_X10_in l D t cI cL cC gC gE gW gA gT gI gS gM K F S N gH gJ e1 gk gf gs g1 gr q_115 g1.toInt64 1 7 g1.toInt 1 7 uq (q_i2l _) (by decide) (by decide) ) (va_cwS 3 hts gu_X10_readsNumber_X10_in_85 rfl rfl rfl (by decide +kernel) ⟨Nat.le_of_ble_eq_true rfl, Nat.le_of_ble_eq_true rfl⟩) (tP_S hG hE) rfl rfl hl.1 rfl (lv_room (Nat.le_of_ble_eq_true rfl)) dX10_readsNumber_118 ⟨Nat.le_of_ble_eq_true rfl, Nat.le_of_ble_eq_true rfl⟩) hS (fun k h => by simp [wr0] at h) (fun r_118 H locs hp_119 hG hS o_120 => ?_)
      have at_112 := va_at.keptC at_112 o_120 k_a0 rfl
      have hp_119 : (r_118 = 1 ∧ 1 ≤ g1.toInt ∧ g1.toInt ≤ 7) ∨ (r_118 = 0 ∧ (g1.toInt < 1 ∨ 7 < g1.toInt)) := hp_119
      rcases hp_119 with ⟨rfl, p_122, p_123⟩ | ⟨rfl, p_124⟩
      · skip
        have zi_1 : (1 : Int32).toInt = 1 := by decide
        exact tx_zret (z := (e1, g1, q_115)) hx hb hr hlk rfl hG hS (Or.inl ⟨rfl, (by show ge.toInt < e1.toInt; omega), (by show e1.toInt ≤ ge.toInt + 9; omega)⟩) dX10_readsNumber_121
      · skip
        exact tx_zret (z := (e1, g1, q_115)) hx hb hr hlk rfl hG hS (Or.inr rfl) dX10_readsNumber_121
    have lp63 : ∀ (kk63 : Nat) (yv : Int32) (e1 : Int32) (g1 : Int32) (H1 : Heap) (locs1 : List Loc) (ls1 : Array Slot), 8 - g1.toInt ≤ (kk63 : Int) → (0 ≤ g1.toInt) → (g1.toInt ≤ 8) → (e1.toInt = ge.toInt + 1 + g1.toInt) → tG D (mF cI cL cC gC gE gW gA gT gI gS gM K F S N gH gJ e1 gk gf gs g1 gr RN) t H1 → tF t wP s.heap H1 locs1 → lv_has ls1 3 [(2, .int yv), (0, .ref a0), (1, .int a1)] → WW63 H1 locs1 (F0 m 32 ls1 []) := by
      intro kk63
      induction kk63 with
      | zero =>
        intro yv e1 g1 H locs ls hk63 v63_0 v63_1 v63_2 hG hS hl
        refine (hWW63 _ _ _).mpr ?_
        refine lv_aload_n hx hb dX10_readsNumber_32 rfl (lv_at hl 1 rfl) ?_
        refine lv_pc (pc2 := 33) rfl ?_
        refine lv_aload_n hx hb dX10_readsNumber_33 rfl (lv_at hl 1 rfl) ?_
        obtain ⟨r_125, v_127, r_128, r_130, r_132, r_134, r_136, r_138, r_140, r_142, r_144, r_146, r_148, r_150, r_152, r_154, r_156, r_158, r_160, r_162, r_164, r_166, r_168, v_170, r_171, at_173, h_126, h_129, h_131, h_133, h_135, h_137, h_139, h_141, h_143, h_145, h_147, h_149, h_151, h_153, h_155, h_157, h_159, h_161, h_163, h_165, h_167, h_169, h_172⟩ := mF_o40 hG k_a0
        refine va_get (D := D) (ci := 9) (v := .int e1) (C := RX10) (T := TX10) (N := 36) hx hb hts in10 hown hK (va_one at_173) 0 rfl rfl 27 (by decide) (hts (.fieldLink RX10 109 "RiverModelModel" "end" "I") (List.mem_of_getElem? (i := 1) rfl)) (fun _ h9 => h9) rfl dX10_readsNumber_34 ?_
        refine ty_calli (W.runV (As := [.int e1]) (rest := []) ⟨hx, hb, hml, hown, hts⟩ (m_X10_byteAt l D t cI cL cC gC gE gW gA gT gI gS gM K F S N gH gJ e1 gk gf gs g1 gr RN a0 e1  uq (by omega) (by omega) (by omega) k_a0) (cwV 1 hts gu_X10_readsNumber_X10_byteAt_112 rfl rfl rfl (by decide +kernel) ⟨Nat.le_of_ble_eq_true rfl, Nat.le_of_ble_eq_true rfl⟩) (tP_V hG hE at_173 rfl) rfl rfl hl.1 rfl (lv_room (Nat.le_of_ble_eq_true rfl)) dX10_readsNumber_37 ⟨Nat.le_of_ble_eq_true rfl, Nat.le_of_ble_eq_true rfl⟩) hS (fun k h => by simp [wr0] at h) (fun r_174 H locs hp_175 hG hS o_176 => ?_)
        have at_173 := va_at.keptC at_173 o_176 k_a0 rfl
        have hp_175 : r_174 = bA gT gC e1 ∧ r_174.toInt = (bA gT gC e1).toInt := hp_175
        obtain ⟨p_178, p_179⟩ := hp_175
        refine lv_i2l (v := r_174.toInt64) hx hb dX10_readsNumber_40 rfl ?_
        refine lv_ldc2 hx hb hown (hts (.constantLong RX10 119 (48)) (List.mem_of_getElem? (i := 11) rfl)) dX10_readsNumber_41 ?_
        refine lv_ldc2 hx hb hown (hts (.constantLong RX10 121 (57)) (List.mem_of_getElem? (i := 12) rfl)) dX10_readsNumber_44 ?_
        have zl_48 : (48 : Int64).toInt = 48 := by decide
        have zl_57 : (57 : Int64).toInt = 57 := by decide
        refine ty_calli (W.runS (As := [.long r_174.toInt64, .long 48, .long 57]) (rest := []) ⟨hx, hb, hml, hown, hts⟩ (m_X10_in l D t cI cL cC gC gE gW gA gT gI gS gM K F S N gH gJ e1 gk gf gs g1 gr RN r_174.toInt64 48 57 r_174.toInt 48 57 uq (q_i2l _) (by decide) (by decide) ) (va_cwS 3 hts gu_X10_readsNumber_X10_in_85 rfl rfl rfl (by decide +kernel) ⟨Nat.le_of_ble_eq_true rfl, Nat.le_of_ble_eq_true rfl⟩) (tP_S hG hE) rfl rfl hl.1 rfl (lv_room (Nat.le_of_ble_eq_true rfl)) dX10_readsNumber_47 ⟨Nat.le_of_ble_eq_true rfl, Nat.le_of_ble_eq_true rfl⟩) hS (fun k h => by simp [wr0] at h) (fun r_180 H locs hp_181 hG hS o_182 => ?_)
        have at_173 := va_at.keptC at_173 o_182 k_a0 rfl
        have hp_181 : (r_180 = 1 ∧ 48 ≤ r_174.toInt ∧ r_174.toInt ≤ 57) ∨ (r_180 = 0 ∧ (r_174.toInt < 48 ∨ 57 < r_174.toInt)) := hp_181
        rcases hp_181 with ⟨rfl, p_184, p_185⟩ | ⟨rfl, p_186⟩
        · skip
          refine lv_if_eq (tgt := 102) hx hb dX10_readsNumber_50 (by decide) (fun q => absurd q (by decide)) (fun _ => ?_)
          refine lv_pc (pc2 := 53) rfl ?_
          refine lv_aload_n hx hb dX10_readsNumber_53 rfl (lv_at hl 1 rfl) ?_
          refine va_get (D := D) (ci := 9) (v := .int g1) (C := RX10) (T := TX10) (N := 36) hx hb hts in10 hown hK (va_one at_173) 0 rfl rfl 31 (by decide) (hts (.fieldLink RX10 116 "RiverModelModel" "figures" "I") (List.mem_of_getElem? (i := 6) rfl)) (fun _ h9 => h9) rfl dX10_readsNumber_54 ?_
          refine lv_bipush (v := 8) hx hb dX10_readsNumber_57 (by decide) ?_
          refine lv_icmp_ge (tgt := 102) hx hb dX10_readsNumber_59 (by decide) (fun c_187 => ?_) (fun c_187 => ?_)
          · skip
            have c_187 : 8 ≤ g1.toInt := q_le c_187
            exact (hWW63 _ _ _).mp (kx63 yv e1 g1 H locs ls v63_0 v63_1 v63_2 hG hS (lv_sub hl [0, 1, 2] rfl))
          · skip
            have c_187 : g1.toInt < 8 := q_nle c_187
            exfalso; omega
        · skip
          refine lv_if_eq (tgt := 102) hx hb dX10_readsNumber_50 (by decide) (fun _ => ?_) (fun q => absurd (by decide) q)
          exact (hWW63 _ _ _).mp (kx63 yv e1 g1 H locs ls v63_0 v63_1 v63_2 hG hS (lv_sub hl [0, 1, 2] rfl))
      | succ kk63 ih63 =>
        intro yv e1 g1 H locs ls hk63 v63_0 v63_1 v63_2 hG hS hl
        refine (hWW63 _ _ _).mpr ?_
        refine lv_aload_n hx hb dX10_readsNumber_32 rfl (lv_at hl 1 rfl) ?_
        refine lv_aload_n hx hb dX10_readsNumber_33 rfl (lv_at hl 1 rfl) ?_
        obtain ⟨r_188, v_190, r_191, r_193, r_195, r_197, r_199, r_201, r_203, r_205, r_207, r_209, r_211, r_213, r_215, r_217, r_219, r_221, r_223, r_225, r_227, r_229, r_231, v_233, r_234, at_236, h_189, h_192, h_194, h_196, h_198, h_200, h_202, h_204, h_206, h_208, h_210, h_212, h_214, h_216, h_218, h_220, h_222, h_224, h_226, h_228, h_230, h_232, h_235⟩ := mF_o40 hG k_a0
        refine va_get (D := D) (ci := 9) (v := .int e1) (C := RX10) (T := TX10) (N := 36) hx hb hts in10 hown hK (va_one at_236) 0 rfl rfl 27 (by decide) (hts (.fieldLink RX10 109 "RiverModelModel" "end" "I") (List.mem_of_getElem? (i := 1) rfl)) (fun _ h9 => h9) rfl dX10_readsNumber_34 ?_
        refine lv_pc (pc2 := 37) rfl ?_
        refine ty_calli (W.runV (As := [.int e1]) (rest := []) ⟨hx, hb, hml, hown, hts⟩ (m_X10_byteAt l D t cI cL cC gC gE gW gA gT gI gS gM K F S N gH gJ e1 gk gf gs g1 gr RN a0 e1  uq (by omega) (by omega) (by omega) k_a0) (cwV 1 hts gu_X10_readsNumber_X10_byteAt_112 rfl rfl rfl (by decide +kernel) ⟨Nat.le_of_ble_eq_true rfl, Nat.le_of_ble_eq_true rfl⟩) (tP_V hG hE at_236 rfl) rfl rfl hl.1 rfl (lv_room (Nat.le_of_ble_eq_true rfl)) dX10_readsNumber_37 ⟨Nat.le_of_ble_eq_true rfl, Nat.le_of_ble_eq_true rfl⟩) hS (fun k h => by simp [wr0] at h) (fun r_237 H locs hp_238 hG hS o_239 => ?_)
        have at_236 := va_at.keptC at_236 o_239 k_a0 rfl
        have hp_238 : r_237 = bA gT gC e1 ∧ r_237.toInt = (bA gT gC e1).toInt := hp_238
        obtain ⟨p_241, p_242⟩ := hp_238
        refine lv_i2l (v := r_237.toInt64) hx hb dX10_readsNumber_40 rfl ?_
        refine lv_ldc2 hx hb hown (hts (.constantLong RX10 119 (48)) (List.mem_of_getElem? (i := 11) rfl)) dX10_readsNumber_41 ?_
        refine lv_ldc2 hx hb hown (hts (.constantLong RX10 121 (57)) (List.mem_of_getElem? (i := 12) rfl)) dX10_readsNumber_44 ?_
        have zl_48 : (48 : Int64).toInt = 48 := by decide
        have zl_57 : (57 : Int64).toInt = 57 := by decide
        refine ty_calli (W.runS (As := [.long r_237.toInt64, .long 48, .long 57]) (rest := []) ⟨hx, hb, hml, hown, hts⟩ (m_X10_in l D t cI cL cC gC gE gW gA gT gI gS gM K F S N gH gJ e1 gk gf gs g1 gr RN r_237.toInt64 48 57 r_237.toInt 48 57 uq (q_i2l _) (by decide) (by decide) ) (va_cwS 3 hts gu_X10_readsNumber_X10_in_85 rfl rfl rfl (by decide +kernel) ⟨Nat.le_of_ble_eq_true rfl, Nat.le_of_ble_eq_true rfl⟩) (tP_S hG hE) rfl rfl hl.1 rfl (lv_room (Nat.le_of_ble_eq_true rfl)) dX10_readsNumber_47 ⟨Nat.le_of_ble_eq_true rfl, Nat.le_of_ble_eq_true rfl⟩) hS (fun k h => by simp [wr0] at h) (fun r_243 H locs hp_244 hG hS o_245 => ?_)
        have at_236 := va_at.keptC at_236 o_245 k_a0 rfl
        have hp_244 : (r_243 = 1 ∧ 48 ≤ r_237.toInt ∧ r_237.toInt ≤ 57) ∨ (r_243 = 0 ∧ (r_237.toInt < 48 ∨ 57 < r_237.toInt)) := hp_244
        rcases hp_244 with ⟨rfl, p_247, p_248⟩ | ⟨rfl, p_249⟩
        · skip
          refine lv_if_eq (tgt := 102) hx hb dX10_readsNumber_50 (by decide) (fun q => absurd q (by decide)) (fun _ => ?_)
          refine lv_aload_n hx hb dX10_readsNumber_53 rfl (lv_at hl 1 rfl) ?_
          refine va_get (D := D) (ci := 9) (v := .int g1) (C := RX10) (T := TX10) (N := 36) hx hb hts in10 hown hK (va_one at_236) 0 rfl rfl 31 (by decide) (hts (.fieldLink RX10 116 "RiverModelModel" "figures" "I") (List.mem_of_getElem? (i := 6) rfl)) (fun _ h9 => h9) rfl dX10_readsNumber_54 ?_
          refine lv_pc (pc2 := 57) rfl ?_
          refine lv_bipush (v := 8) hx hb dX10_readsNumber_57 (by decide) ?_
          refine lv_icmp_ge (tgt := 102) hx hb dX10_readsNumber_59 (by decide) (fun c_250 => ?_) (fun c_250 => ?_)
          · skip
            have c_250 : 8 ≤ g1.toInt := q_le c_250
            exact (hWW63 _ _ _).mp (kx63 yv e1 g1 H locs ls v63_0 v63_1 v63_2 hG hS (lv_sub hl [0, 1, 2] rfl))
          · skip
            have c_250 : g1.toInt < 8 := q_nle c_250
            refine lv_bipush (v := 10) hx hb dX10_readsNumber_62 (by decide) ?_
            refine lv_iload_n hx hb dX10_readsNumber_64 rfl (lv_at hl 0 rfl) ?_
            refine lv_imul hx hb dX10_readsNumber_65 ?_
            refine lv_topi (fun x_251 e_252 => ?_)
            refine lv_aload_n hx hb dX10_readsNumber_66 rfl (lv_at hl 1 rfl) ?_
            refine lv_aload_n hx hb dX10_readsNumber_67 rfl (lv_at hl 1 rfl) ?_
            refine va_get (D := D) (ci := 9) (v := .int e1) (C := RX10) (T := TX10) (N := 36) hx hb hts in10 hown hK (va_one at_236) 0 rfl rfl 27 (by decide) (hts (.fieldLink RX10 109 "RiverModelModel" "end" "I") (List.mem_of_getElem? (i := 1) rfl)) (fun _ h9 => h9) rfl dX10_readsNumber_68 ?_
            refine lv_pc (pc2 := 71) rfl ?_
            refine ty_calli (W.runV (As := [.int e1]) (rest := [.int x_251]) ⟨hx, hb, hml, hown, hts⟩ (m_X10_byteAt l D t cI cL cC gC gE gW gA gT gI gS gM K F S N gH gJ e1 gk gf gs g1 gr RN a0 e1  uq (by omega) (by omega) (by omega) k_a0) (cwV 1 hts gu_X10_readsNumber_X10_byteAt_112 rfl rfl rfl (by decide +kernel) ⟨Nat.le_of_ble_eq_true rfl, Nat.le_of_ble_eq_true rfl⟩) (tP_V hG hE at_236 rfl) rfl rfl hl.1 rfl (lv_room (Nat.le_of_ble_eq_true rfl)) dX10_readsNumber_71 ⟨Nat.le_of_ble_eq_true rfl, Nat.le_of_ble_eq_true rfl⟩) hS (fun k h => by simp [wr0] at h) (fun r_253 H locs hp_254 hG hS o_255 => ?_)
            have at_236 := va_at.keptC at_236 o_255 k_a0 rfl
            have hp_254 : r_253 = bA gT gC e1 ∧ r_253.toInt = (bA gT gC e1).toInt := hp_254
            obtain ⟨p_257, p_258⟩ := hp_254
            refine lv_iadd hx hb dX10_readsNumber_74 ?_
            refine lv_topi (fun x_259 e_260 => ?_)
            refine lv_bipush (v := 48) hx hb dX10_readsNumber_75 (by decide) ?_
            refine lv_isub hx hb dX10_readsNumber_77 ?_
            refine lv_topi (fun x_261 e_262 => ?_)
            refine lv_istore_n (lv' := [(2, .int x_261), (0, .ref a0), (1, .int a1)]) hx hb dX10_readsNumber_78 rfl hl (by decide) rfl (fun ls hl => ?_)
            refine lv_aload_n hx hb dX10_readsNumber_79 rfl (lv_at hl 1 rfl) ?_
            refine lv_dup hx hb dX10_readsNumber_80 rfl ?_
            refine va_get (D := D) (ci := 9) (v := .int g1) (C := RX10) (T := TX10) (N := 36) hx hb hts in10 hown hK (va_one at_236) 0 rfl rfl 31 (by decide) (hts (.fieldLink RX10 116 "RiverModelModel" "figures" "I") (List.mem_of_getElem? (i := 6) rfl)) (fun _ h9 => h9) rfl dX10_readsNumber_81 ?_
            refine lv_pc (pc2 := 84) rfl ?_
            refine lv_iconst (v := 1) hx hb dX10_readsNumber_84 (by decide) ?_
            refine lv_iadd hx hb dX10_readsNumber_85 ?_
            refine lv_topi (fun x_263 e_264 => ?_)
            have i_x_263 : x_263.toInt = g1.toInt + 1 := by rw [e_264]; exact (q_add (by rw [show (1 : Int32).toInt = 1 by decide]; omega) (by rw [show (1 : Int32).toInt = 1 by decide]; omega)).trans (by rw [show (1 : Int32).toInt = 1 by decide])
            refine ty_put (D := D) (ci := 9) (v := .int x_263) (ty := .int) (C := RX10) (T := TX10) (N := 36) (F2 := (mF cI cL cC gC gE gW gA gT gI gS gM K F S N gH gJ e1 gk gf gs x_263 gr RN)) hx hb hts in10 tyX10 tyX10_ok nmX10 hown hK hG hS at_236 (by rw [k_a0]; rfl) rfl 31 (by decide) (hts (.fieldLink RX10 116 "RiverModelModel" "figures" "I") (List.mem_of_getElem? (i := 6) rfl)) (fun _ h9 => h9) rfl (by decide +kernel) rfl rfl (Nat.le_of_ble_eq_true rfl) (by rw [k_a0]; exact ⟨r_188, v_190, r_191, r_193, r_195, r_197, r_199, r_201, r_203, r_205, r_207, r_209, r_211, r_213, r_215, r_217, r_219, r_221, r_223, r_225, r_227, r_229, r_231, v_233, r_234, rfl, h_189, h_192, h_194, h_196, h_198, h_200, h_202, h_204, h_206, h_208, h_210, h_212, h_214, h_216, h_218, h_220, h_222, h_224, h_226, h_228, h_230, h_232, h_235⟩) (fun hG b hb h0 => by obtain ⟨e, g1, g2⟩ := hG b h0; exact ⟨e, g1, mF_gg (fun h => hb (uq b a0 (h.trans k_a0.symm) h0)) g2⟩) dX10_readsNumber_86 (fun H locs hG hS at_265 o_266 => ?_)
            have at_265 : va_at D vwCl (a0, .inr (9, [.int gC, .ref r_188, .int v_190, .int gI, .ref r_191, .ref r_193, .ref r_195, .ref r_197, .int gS, .ref r_199, .ref r_201, .ref r_203, .ref r_205, .int gM, .ref r_207, .ref r_209, .ref r_211, .int gE, .ref r_213, .ref r_215, .ref r_217, .ref r_219, .ref r_221, .ref r_223, .ref r_225, .ref r_227, .ref r_229, .int e1, .int gk, .int gf, .int gs, .int x_263, .ref r_231, .int gr, .int v_233, .ref r_234])) H := at_265
            refine lv_aload_n hx hb dX10_readsNumber_89 rfl (lv_at hl 1 rfl) ?_
            refine lv_dup hx hb dX10_readsNumber_90 rfl ?_
            refine va_get (D := D) (ci := 9) (v := .int e1) (C := RX10) (T := TX10) (N := 36) hx hb hts in10 hown hK (va_one at_265) 0 rfl rfl 27 (by decide) (hts (.fieldLink RX10 109 "RiverModelModel" "end" "I") (List.mem_of_getElem? (i := 1) rfl)) (fun _ h9 => h9) rfl dX10_readsNumber_91 ?_
            refine lv_iconst (v := 1) hx hb dX10_readsNumber_94 (by decide) ?_
            refine lv_iadd hx hb dX10_readsNumber_95 ?_
            refine lv_topi (fun x_267 e_268 => ?_)
            have i_x_267 : x_267.toInt = e1.toInt + 1 := by rw [e_268]; exact (q_add (by rw [show (1 : Int32).toInt = 1 by decide]; omega) (by rw [show (1 : Int32).toInt = 1 by decide]; omega)).trans (by rw [show (1 : Int32).toInt = 1 by decide])
            refine lv_pc (pc2 := 96) rfl ?_
            refine ty_put (D := D) (ci := 9) (v := .int x_267) (ty := .int) (C := RX10) (T := TX10) (N := 36) (F2 := (mF cI cL cC gC gE gW gA gT gI gS gM K F S N gH gJ x_267 gk gf gs x_263 gr RN)) hx hb hts in10 tyX10 tyX10_ok nmX10 hown hK hG hS at_265 (by rw [k_a0]; rfl) rfl 27 (by decide) (hts (.fieldLink RX10 109 "RiverModelModel" "end" "I") (List.mem_of_getElem? (i := 1) rfl)) (fun _ h9 => h9) rfl (by decide +kernel) rfl rfl (Nat.le_of_ble_eq_true rfl) (by rw [k_a0]; exact ⟨r_188, v_190, r_191, r_193, r_195, r_197, r_199, r_201, r_203, r_205, r_207, r_209, r_211, r_213, r_215, r_217, r_219, r_221, r_223, r_225, r_227, r_229, r_231, v_233, r_234, rfl, h_189, h_192, h_194, h_196, h_198, h_200, h_202, h_204, h_206, h_208, h_210, h_212, h_214, h_216, h_218, h_220, h_222, h_224, h_226, h_228, h_230, h_232, h_235⟩) (fun hG b hb h0 => by obtain ⟨e, g1, g2⟩ := hG b h0; exact ⟨e, g1, mF_ge (fun h => hb (uq b a0 (h.trans k_a0.symm) h0)) g2⟩) dX10_readsNumber_96 (fun H locs hG hS at_269 o_270 => ?_)
            have at_269 : va_at D vwCl (a0, .inr (9, [.int gC, .ref r_188, .int v_190, .int gI, .ref r_191, .ref r_193, .ref r_195, .ref r_197, .int gS, .ref r_199, .ref r_201, .ref r_203, .ref r_205, .int gM, .ref r_207, .ref r_209, .ref r_211, .int gE, .ref r_213, .ref r_215, .ref r_217, .ref r_219, .ref r_221, .ref r_223, .ref r_225, .ref r_227, .ref r_229, .int x_267, .int gk, .int gf, .int gs, .int x_263, .ref r_231, .int gr, .int v_233, .ref r_234])) H := at_269
            refine lv_goto (tgt := 32) hx hb dX10_readsNumber_99 (by decide) ?_
            exact (hWW63 _ _ _).mp (ih63 x_261 x_267 x_263 H locs ls (by omega) (by omega) (by omega) (by omega) hG hS (lv_sub hl [0, 1, 2] rfl))
        · skip
          refine lv_if_eq (tgt := 102) hx hb dX10_readsNumber_50 (by decide) (fun _ => ?_) (fun q => absurd (by decide) q)
          exact (hWW63 _ _ _).mp (kx63 yv e1 g1 H locs ls v63_0 v63_1 v63_2 hG hS (lv_sub hl [0, 1, 2] rfl))
    exact lp63 (8 - (0 : Int32).toInt : Int).toNat 0 x_57 0 H locs ls (by omega) (by omega) (by omega) (by omega) hG hS (lv_sub hl [0, 1, 2] rfl)
  · skip
    have c_56 : r_50.toInt ≠ 44 := q_ne c_56
    refine lv_iconst (v := 0) hx hb dX10_readsNumber_13 (by decide) ?_
    have zi_0 : (0 : Int32).toInt = 0 := by decide
    exact tx_zret (z := (ge, gg, RN)) hx hb hr hlk rfl hG hS (Or.inr rfl) dX10_readsNumber_14
