theorem dX2_namesOf_0 : decode cX2_namesOf 0 = .ok (.iload_n 0, 1) := by decide +kernel
theorem dX2_namesOf_1 : decode cX2_namesOf 1 = .ok (.tableswitch 107 101 122 #[105, 107, 103, 107, 107, 107, 107, 103, 103, 105, 103, 107, 107, 105, 105, 103, 107, 107, 107, 107, 107, 105], 103) := by decide +kernel
theorem dX2_namesOf_104 : decode cX2_namesOf 104 = .ok (.iconst 2, 1) := by decide +kernel
theorem dX2_namesOf_105 : decode cX2_namesOf 105 = .ok (.ireturn, 1) := by decide +kernel
theorem dX2_namesOf_106 : decode cX2_namesOf 106 = .ok (.iconst 1, 1) := by decide +kernel
theorem dX2_namesOf_107 : decode cX2_namesOf 107 = .ok (.ireturn, 1) := by decide +kernel
theorem dX2_namesOf_108 : decode cX2_namesOf 108 = .ok (.iconst 0, 1) := by decide +kernel
theorem dX2_namesOf_109 : decode cX2_namesOf 109 = .ok (.ireturn, 1) := by decide +kernel
theorem dX2_numbersOf_0 : decode cX2_numbersOf 0 = .ok (.iload_n 0, 1) := by decide +kernel
theorem dX2_numbersOf_1 : decode cX2_numbersOf 1 = .ok (.tableswitch 85 101 116 #[83, 85, 83, 85, 85, 85, 85, 79, 83, 83, 85, 85, 85, 83, 81, 83], 79) := by decide +kernel
theorem dX2_numbersOf_80 : decode cX2_numbersOf 80 = .ok (.iconst 3, 1) := by decide +kernel
theorem dX2_numbersOf_81 : decode cX2_numbersOf 81 = .ok (.ireturn, 1) := by decide +kernel
theorem dX2_numbersOf_82 : decode cX2_numbersOf 82 = .ok (.iconst 2, 1) := by decide +kernel
theorem dX2_numbersOf_83 : decode cX2_numbersOf 83 = .ok (.ireturn, 1) := by decide +kernel
theorem dX2_numbersOf_84 : decode cX2_numbersOf 84 = .ok (.iconst 1, 1) := by decide +kernel
theorem dX2_numbersOf_85 : decode cX2_numbersOf 85 = .ok (.ireturn, 1) := by decide +kernel
theorem dX2_numbersOf_86 : decode cX2_numbersOf 86 = .ok (.iconst 0, 1) := by decide +kernel
theorem dX2_numbersOf_87 : decode cX2_numbersOf 87 = .ok (.ireturn, 1) := by decide +kernel
theorem dX2_areNumbersAsTold_0 : decode cX2_areNumbersAsTold 0 = .ok (.iload_n 0, 1) := by decide +kernel
theorem dX2_areNumbersAsTold_1 : decode cX2_areNumbersAsTold 1 = .ok (.tableswitch 184 101 116 #[141, 184, 149, 184, 184, 184, 184, 103, 141, 177, 184, 184, 184, 177, 79, 157], 79) := by decide +kernel
theorem dX2_areNumbersAsTold_80 : decode cX2_areNumbersAsTold 80 = .ok (.iload_n 1, 1) := by decide +kernel
theorem dX2_areNumbersAsTold_81 : decode cX2_areNumbersAsTold 81 = .ok (.ldc 9, 2) := by decide +kernel
theorem dX2_areNumbersAsTold_83 : decode cX2_areNumbersAsTold 83 = .ok (.invokestatic 10, 3) := by decide +kernel
theorem dX2_areNumbersAsTold_86 : decode cX2_areNumbersAsTold 86 = .ok (.ifCond .eq 16, 3) := by decide +kernel
theorem dX2_areNumbersAsTold_89 : decode cX2_areNumbersAsTold 89 = .ok (.iload_n 2, 1) := by decide +kernel
theorem dX2_areNumbersAsTold_90 : decode cX2_areNumbersAsTold 90 = .ok (.ldc 9, 2) := by decide +kernel
theorem dX2_areNumbersAsTold_92 : decode cX2_areNumbersAsTold 92 = .ok (.invokestatic 10, 3) := by decide +kernel
theorem dX2_areNumbersAsTold_95 : decode cX2_areNumbersAsTold 95 = .ok (.ifCond .eq 7, 3) := by decide +kernel
theorem dX2_areNumbersAsTold_98 : decode cX2_areNumbersAsTold 98 = .ok (.iconst 1, 1) := by decide +kernel
theorem dX2_areNumbersAsTold_99 : decode cX2_areNumbersAsTold 99 = .ok (.goto 4, 3) := by decide +kernel
theorem dX2_areNumbersAsTold_102 : decode cX2_areNumbersAsTold 102 = .ok (.iconst 0, 1) := by decide +kernel
theorem dX2_areNumbersAsTold_103 : decode cX2_areNumbersAsTold 103 = .ok (.ireturn, 1) := by decide +kernel
theorem dX2_areNumbersAsTold_104 : decode cX2_areNumbersAsTold 104 = .ok (.iload_n 2, 1) := by decide +kernel
theorem dX2_areNumbersAsTold_105 : decode cX2_areNumbersAsTold 105 = .ok (.iconst 1, 1) := by decide +kernel
theorem dX2_areNumbersAsTold_106 : decode cX2_areNumbersAsTold 106 = .ok (.if_icmp .lt 34, 3) := by decide +kernel
theorem dX2_areNumbersAsTold_109 : decode cX2_areNumbersAsTold 109 = .ok (.iload_n 2, 1) := by decide +kernel
theorem dX2_areNumbersAsTold_110 : decode cX2_areNumbersAsTold 110 = .ok (.sipush 1000, 3) := by decide +kernel
theorem dX2_areNumbersAsTold_113 : decode cX2_areNumbersAsTold 113 = .ok (.invokestatic 10, 3) := by decide +kernel
theorem dX2_areNumbersAsTold_116 : decode cX2_areNumbersAsTold 116 = .ok (.ifCond .eq 24, 3) := by decide +kernel
theorem dX2_areNumbersAsTold_119 : decode cX2_areNumbersAsTold 119 = .ok (.iload_n 1, 1) := by decide +kernel
theorem dX2_areNumbersAsTold_120 : decode cX2_areNumbersAsTold 120 = .ok (.iload_n 2, 1) := by decide +kernel
theorem dX2_areNumbersAsTold_121 : decode cX2_areNumbersAsTold 121 = .ok (.invokestatic 10, 3) := by decide +kernel
theorem dX2_areNumbersAsTold_124 : decode cX2_areNumbersAsTold 124 = .ok (.ifCond .eq 16, 3) := by decide +kernel
theorem dX2_areNumbersAsTold_127 : decode cX2_areNumbersAsTold 127 = .ok (.iload_n 3, 1) := by decide +kernel
theorem dX2_areNumbersAsTold_128 : decode cX2_areNumbersAsTold 128 = .ok (.ldc 9, 2) := by decide +kernel
theorem dX2_areNumbersAsTold_130 : decode cX2_areNumbersAsTold 130 = .ok (.invokestatic 10, 3) := by decide +kernel
theorem dX2_areNumbersAsTold_133 : decode cX2_areNumbersAsTold 133 = .ok (.ifCond .eq 7, 3) := by decide +kernel
theorem dX2_areNumbersAsTold_136 : decode cX2_areNumbersAsTold 136 = .ok (.iconst 1, 1) := by decide +kernel
theorem dX2_areNumbersAsTold_137 : decode cX2_areNumbersAsTold 137 = .ok (.goto 4, 3) := by decide +kernel
theorem dX2_areNumbersAsTold_140 : decode cX2_areNumbersAsTold 140 = .ok (.iconst 0, 1) := by decide +kernel
theorem dX2_areNumbersAsTold_141 : decode cX2_areNumbersAsTold 141 = .ok (.ireturn, 1) := by decide +kernel
theorem dX2_areNumbersAsTold_142 : decode cX2_areNumbersAsTold 142 = .ok (.iload_n 1, 1) := by decide +kernel
theorem dX2_areNumbersAsTold_143 : decode cX2_areNumbersAsTold 143 = .ok (.sipush 1000, 3) := by decide +kernel
theorem dX2_areNumbersAsTold_146 : decode cX2_areNumbersAsTold 146 = .ok (.invokestatic 10, 3) := by decide +kernel
theorem dX2_areNumbersAsTold_149 : decode cX2_areNumbersAsTold 149 = .ok (.ireturn, 1) := by decide +kernel
theorem dX2_areNumbersAsTold_150 : decode cX2_areNumbersAsTold 150 = .ok (.iload_n 1, 1) := by decide +kernel
theorem dX2_areNumbersAsTold_151 : decode cX2_areNumbersAsTold 151 = .ok (.sipush 10000, 3) := by decide +kernel
theorem dX2_areNumbersAsTold_154 : decode cX2_areNumbersAsTold 154 = .ok (.invokestatic 10, 3) := by decide +kernel
theorem dX2_areNumbersAsTold_157 : decode cX2_areNumbersAsTold 157 = .ok (.ireturn, 1) := by decide +kernel
theorem dX2_areNumbersAsTold_158 : decode cX2_areNumbersAsTold 158 = .ok (.iload_n 1, 1) := by decide +kernel
theorem dX2_areNumbersAsTold_159 : decode cX2_areNumbersAsTold 159 = .ok (.iconst 1, 1) := by decide +kernel
theorem dX2_areNumbersAsTold_160 : decode cX2_areNumbersAsTold 160 = .ok (.if_icmp .lt 16, 3) := by decide +kernel
theorem dX2_areNumbersAsTold_163 : decode cX2_areNumbersAsTold 163 = .ok (.iload_n 1, 1) := by decide +kernel
theorem dX2_areNumbersAsTold_164 : decode cX2_areNumbersAsTold 164 = .ok (.bipush 12, 2) := by decide +kernel
theorem dX2_areNumbersAsTold_166 : decode cX2_areNumbersAsTold 166 = .ok (.invokestatic 10, 3) := by decide +kernel
theorem dX2_areNumbersAsTold_169 : decode cX2_areNumbersAsTold 169 = .ok (.ifCond .eq 7, 3) := by decide +kernel
theorem dX2_areNumbersAsTold_172 : decode cX2_areNumbersAsTold 172 = .ok (.iconst 1, 1) := by decide +kernel
theorem dX2_areNumbersAsTold_173 : decode cX2_areNumbersAsTold 173 = .ok (.goto 4, 3) := by decide +kernel
theorem dX2_areNumbersAsTold_176 : decode cX2_areNumbersAsTold 176 = .ok (.iconst 0, 1) := by decide +kernel
theorem dX2_areNumbersAsTold_177 : decode cX2_areNumbersAsTold 177 = .ok (.ireturn, 1) := by decide +kernel
theorem dX2_areNumbersAsTold_178 : decode cX2_areNumbersAsTold 178 = .ok (.iload_n 1, 1) := by decide +kernel
theorem dX2_areNumbersAsTold_179 : decode cX2_areNumbersAsTold 179 = .ok (.bipush 100, 2) := by decide +kernel
theorem dX2_areNumbersAsTold_181 : decode cX2_areNumbersAsTold 181 = .ok (.invokestatic 10, 3) := by decide +kernel
theorem dX2_areNumbersAsTold_184 : decode cX2_areNumbersAsTold 184 = .ok (.ireturn, 1) := by decide +kernel
theorem dX2_areNumbersAsTold_185 : decode cX2_areNumbersAsTold 185 = .ok (.iconst 1, 1) := by decide +kernel
theorem dX2_areNumbersAsTold_186 : decode cX2_areNumbersAsTold 186 = .ok (.ireturn, 1) := by decide +kernel
theorem dX2_isUpTo_0 : decode cX2_isUpTo 0 = .ok (.iload_n 0, 1) := by decide +kernel
theorem dX2_isUpTo_1 : decode cX2_isUpTo 1 = .ok (.ifCond .lt 12, 3) := by decide +kernel
theorem dX2_isUpTo_4 : decode cX2_isUpTo 4 = .ok (.iload_n 0, 1) := by decide +kernel
theorem dX2_isUpTo_5 : decode cX2_isUpTo 5 = .ok (.iload_n 1, 1) := by decide +kernel
theorem dX2_isUpTo_6 : decode cX2_isUpTo 6 = .ok (.if_icmp .gt 7, 3) := by decide +kernel
theorem dX2_isUpTo_9 : decode cX2_isUpTo 9 = .ok (.iconst 1, 1) := by decide +kernel
theorem dX2_isUpTo_10 : decode cX2_isUpTo 10 = .ok (.goto 4, 3) := by decide +kernel
theorem dX2_isUpTo_13 : decode cX2_isUpTo 13 = .ok (.iconst 0, 1) := by decide +kernel
theorem dX2_isUpTo_14 : decode cX2_isUpTo 14 = .ok (.ireturn, 1) := by decide +kernel
theorem dX7_nextByte_0 : decode cX7_nextByte 0 = .ok (.aload_n 0, 1) := by decide +kernel
theorem dX7_nextByte_1 : decode cX7_nextByte 1 = .ok (.getfield 22, 3) := by decide +kernel
theorem dX7_nextByte_4 : decode cX7_nextByte 4 = .ok (.aload_n 0, 1) := by decide +kernel
theorem dX7_nextByte_5 : decode cX7_nextByte 5 = .ok (.getfield 18, 3) := by decide +kernel
theorem dX7_nextByte_8 : decode cX7_nextByte 8 = .ok (.if_icmp .lt 5, 3) := by decide +kernel
theorem dX7_nextByte_11 : decode cX7_nextByte 11 = .ok (.iconst (-1), 1) := by decide +kernel
theorem dX7_nextByte_12 : decode cX7_nextByte 12 = .ok (.ireturn, 1) := by decide +kernel
theorem dX7_nextByte_13 : decode cX7_nextByte 13 = .ok (.aload_n 0, 1) := by decide +kernel
theorem dX7_nextByte_14 : decode cX7_nextByte 14 = .ok (.dup, 1) := by decide +kernel
theorem dX7_nextByte_15 : decode cX7_nextByte 15 = .ok (.getfield 22, 3) := by decide +kernel
theorem dX7_nextByte_18 : decode cX7_nextByte 18 = .ok (.iconst 1, 1) := by decide +kernel
theorem dX7_nextByte_19 : decode cX7_nextByte 19 = .ok (.iadd, 1) := by decide +kernel
theorem dX7_nextByte_20 : decode cX7_nextByte 20 = .ok (.putfield 22, 3) := by decide +kernel
theorem dX7_nextByte_23 : decode cX7_nextByte 23 = .ok (.aload_n 0, 1) := by decide +kernel
theorem dX7_nextByte_24 : decode cX7_nextByte 24 = .ok (.getfield 9, 3) := by decide +kernel
theorem dX7_nextByte_27 : decode cX7_nextByte 27 = .ok (.aload_n 0, 1) := by decide +kernel
theorem dX7_nextByte_28 : decode cX7_nextByte 28 = .ok (.getfield 22, 3) := by decide +kernel
theorem dX7_nextByte_31 : decode cX7_nextByte 31 = .ok (.iconst 1, 1) := by decide +kernel
theorem dX7_nextByte_32 : decode cX7_nextByte 32 = .ok (.isub, 1) := by decide +kernel
theorem dX7_nextByte_33 : decode cX7_nextByte 33 = .ok (.iaload, 1) := by decide +kernel
theorem dX7_nextByte_34 : decode cX7_nextByte 34 = .ok (.ireturn, 1) := by decide +kernel
theorem dX9_isOutside_0 : decode cX9_isOutside 0 = .ok (.iload_n 0, 1) := by decide +kernel
theorem dX9_isOutside_1 : decode cX9_isOutside 1 = .ok (.iload_n 1, 1) := by decide +kernel
theorem dX9_isOutside_2 : decode cX9_isOutside 2 = .ok (.if_icmp .lt 8, 3) := by decide +kernel
theorem dX9_isOutside_5 : decode cX9_isOutside 5 = .ok (.iload_n 0, 1) := by decide +kernel
theorem dX9_isOutside_6 : decode cX9_isOutside 6 = .ok (.iload_n 2, 1) := by decide +kernel
theorem dX9_isOutside_7 : decode cX9_isOutside 7 = .ok (.if_icmp .le 7, 3) := by decide +kernel
theorem dX9_isOutside_10 : decode cX9_isOutside 10 = .ok (.iconst 1, 1) := by decide +kernel
theorem dX9_isOutside_11 : decode cX9_isOutside 11 = .ok (.goto 4, 3) := by decide +kernel
theorem dX9_isOutside_14 : decode cX9_isOutside 14 = .ok (.iconst 0, 1) := by decide +kernel
theorem dX9_isOutside_15 : decode cX9_isOutside 15 = .ok (.ireturn, 1) := by decide +kernel
theorem dX9_isNoItem_0 : decode cX9_isNoItem 0 = .ok (.iload_n 0, 1) := by decide +kernel
theorem dX9_isNoItem_1 : decode cX9_isNoItem 1 = .ok (.ifCond .lt 9, 3) := by decide +kernel
theorem dX9_isNoItem_4 : decode cX9_isNoItem 4 = .ok (.iload_n 0, 1) := by decide +kernel
theorem dX9_isNoItem_5 : decode cX9_isNoItem 5 = .ok (.bipush 40, 2) := by decide +kernel
theorem dX9_isNoItem_7 : decode cX9_isNoItem 7 = .ok (.if_icmp .lt 7, 3) := by decide +kernel
theorem dX9_isNoItem_10 : decode cX9_isNoItem 10 = .ok (.iconst 1, 1) := by decide +kernel
theorem dX9_isNoItem_11 : decode cX9_isNoItem 11 = .ok (.goto 4, 3) := by decide +kernel
theorem dX9_isNoItem_14 : decode cX9_isNoItem 14 = .ok (.iconst 0, 1) := by decide +kernel
theorem dX9_isNoItem_15 : decode cX9_isNoItem 15 = .ok (.ireturn, 1) := by decide +kernel
theorem dX9_isNoStore_0 : decode cX9_isNoStore 0 = .ok (.iload_n 0, 1) := by decide +kernel
theorem dX9_isNoStore_1 : decode cX9_isNoStore 1 = .ok (.ifCond .lt 9, 3) := by decide +kernel
theorem dX9_isNoStore_4 : decode cX9_isNoStore 4 = .ok (.iload_n 0, 1) := by decide +kernel
theorem dX9_isNoStore_5 : decode cX9_isNoStore 5 = .ok (.bipush 16, 2) := by decide +kernel
theorem dX9_isNoStore_7 : decode cX9_isNoStore 7 = .ok (.if_icmp .lt 7, 3) := by decide +kernel
theorem dX9_isNoStore_10 : decode cX9_isNoStore 10 = .ok (.iconst 1, 1) := by decide +kernel
theorem dX9_isNoStore_11 : decode cX9_isNoStore 11 = .ok (.goto 4, 3) := by decide +kernel
theorem dX9_isNoStore_14 : decode cX9_isNoStore 14 = .ok (.iconst 0, 1) := by decide +kernel
theorem dX9_isNoStore_15 : decode cX9_isNoStore 15 = .ok (.ireturn, 1) := by decide +kernel
theorem dX9_isNoGauge_0 : decode cX9_isNoGauge 0 = .ok (.iload_n 0, 1) := by decide +kernel
theorem dX9_isNoGauge_1 : decode cX9_isNoGauge 1 = .ok (.ifCond .lt 8, 3) := by decide +kernel
theorem dX9_isNoGauge_4 : decode cX9_isNoGauge 4 = .ok (.iload_n 0, 1) := by decide +kernel
theorem dX9_isNoGauge_5 : decode cX9_isNoGauge 5 = .ok (.iconst 4, 1) := by decide +kernel
theorem dX9_isNoGauge_6 : decode cX9_isNoGauge 6 = .ok (.if_icmp .lt 7, 3) := by decide +kernel
theorem dX9_isNoGauge_9 : decode cX9_isNoGauge 9 = .ok (.iconst 1, 1) := by decide +kernel
theorem dX9_isNoGauge_10 : decode cX9_isNoGauge 10 = .ok (.goto 4, 3) := by decide +kernel
theorem dX9_isNoGauge_13 : decode cX9_isNoGauge 13 = .ok (.iconst 0, 1) := by decide +kernel
theorem dX9_isNoGauge_14 : decode cX9_isNoGauge 14 = .ok (.ireturn, 1) := by decide +kernel
theorem dX9_isNoKnob_0 : decode cX9_isNoKnob 0 = .ok (.iload_n 0, 1) := by decide +kernel
theorem dX9_isNoKnob_1 : decode cX9_isNoKnob 1 = .ok (.ifCond .lt 8, 3) := by decide +kernel
theorem dX9_isNoKnob_4 : decode cX9_isNoKnob 4 = .ok (.iload_n 0, 1) := by decide +kernel
theorem dX9_isNoKnob_5 : decode cX9_isNoKnob 5 = .ok (.iconst 2, 1) := by decide +kernel
theorem dX9_isNoKnob_6 : decode cX9_isNoKnob 6 = .ok (.if_icmp .lt 7, 3) := by decide +kernel
theorem dX9_isNoKnob_9 : decode cX9_isNoKnob 9 = .ok (.iconst 1, 1) := by decide +kernel
theorem dX9_isNoKnob_10 : decode cX9_isNoKnob 10 = .ok (.goto 4, 3) := by decide +kernel
theorem dX9_isNoKnob_13 : decode cX9_isNoKnob 13 = .ok (.iconst 0, 1) := by decide +kernel
theorem dX9_isNoKnob_14 : decode cX9_isNoKnob 14 = .ok (.ireturn, 1) := by decide +kernel
def uaX9_isOutside : List Cond := .code yX9_isOutside cX9_isOutside 3 (some .boolean) :: ([])
set_option maxHeartbeats 4000000 in
set_option maxRecDepth 100000 in
theorem a_X9_isOutside (l : Launch) (D : va_G) (t : Nat → Nat) (cI cL cC : ClassId) (Fa : tFT) (a0 : Int32) (a1 : Int32) (a2 : Int32) (A : Int) (B : Int) (C : Int) (hA : a0.toInt = A) (hB : a1.toInt = B) (hC : a2.toInt = C) : tM l yX9_isOutside uaX9_isOutside 0 0 D Fa Fa t cI cL cC [.int a0, .int a1, .int a2] wr0 (pI (fun r => (r = 1 ∧ (A < B ∨ C < A)) ∨ (r = 0 ∧ B ≤ A ∧ A ≤ C))) := by
  refine tM.ofW (cc := cX9_isOutside) (maxL := 3) (ret := (some .boolean)) (by decide) rfl (Nat.le_of_ble_eq_true rfl) ?_
  intro p e s m below meth c hx hb hr hml hown hts hlk H locs hG hK hE hS ls hl
  have hl : lv_has ls 3 [(0, .int a0), (1, .int a1), (2, .int a2)] := hl
  skip
  refine lv_iload_n hx hb dX9_isOutside_0 rfl (lv_at hl 0 rfl) ?_
  refine lv_iload_n hx hb dX9_isOutside_1 rfl (lv_at hl 1 rfl) ?_
  refine lv_icmp_lt (tgt := 10) hx hb dX9_isOutside_2 (by decide) (fun c_1 => ?_) (fun c_1 => ?_)
  · skip
    have c_1 : a0.toInt < a1.toInt := q_lt c_1
    refine lv_iconst (v := 1) hx hb dX9_isOutside_10 (by decide) ?_
    refine lv_goto (tgt := 15) hx hb dX9_isOutside_11 (by decide) ?_
    have zi_1 : (1 : Int32).toInt = 1 := by decide
    exact ty_zret hx hb hr hlk rfl hG hS (Or.inl ⟨rfl, (by show A < B ∨ C < A; omega)⟩) dX9_isOutside_15
  · skip
    have c_1 : a1.toInt ≤ a0.toInt := q_nlt c_1
    refine lv_iload_n hx hb dX9_isOutside_5 rfl (lv_at hl 0 rfl) ?_
    refine lv_pc (pc2 := 6) rfl ?_
    refine lv_iload_n hx hb dX9_isOutside_6 rfl (lv_at hl 2 rfl) ?_
    refine lv_icmp_le (tgt := 14) hx hb dX9_isOutside_7 (by decide) (fun c_2 => ?_) (fun c_2 => ?_)
    · skip
      have c_2 : a0.toInt ≤ a2.toInt := q_le c_2
      refine lv_iconst (v := 0) hx hb dX9_isOutside_14 (by decide) ?_
      have zi_0 : (0 : Int32).toInt = 0 := by decide
      exact ty_zret hx hb hr hlk rfl hG hS (Or.inr ⟨rfl, (by show B ≤ A; omega), (by show A ≤ C; omega)⟩) dX9_isOutside_15
    · skip
      have c_2 : a2.toInt < a0.toInt := q_nle c_2
      refine lv_iconst (v := 1) hx hb dX9_isOutside_10 (by decide) ?_
      refine lv_goto (tgt := 15) hx hb dX9_isOutside_11 (by decide) ?_
      have zi_1 : (1 : Int32).toInt = 1 := by decide
      exact ty_zret hx hb hr hlk rfl hG hS (Or.inl ⟨rfl, (by show A < B ∨ C < A; omega)⟩) dX9_isOutside_15

def uaX9_isNoItem : List Cond := .code yX9_isNoItem cX9_isNoItem 1 (some .boolean) :: ([])
set_option maxHeartbeats 4000000 in
set_option maxRecDepth 100000 in
theorem a_X9_isNoItem (l : Launch) (D : va_G) (t : Nat → Nat) (cI cL cC : ClassId) (Fa : tFT) (a0 : Int32) : tM l yX9_isNoItem uaX9_isNoItem 0 0 D Fa Fa t cI cL cC [.int a0] wr0 (pI (fun r => (r = 1 ∧ (a0.toInt < 0 ∨ 39 < a0.toInt)) ∨ (r = 0 ∧ 0 ≤ a0.toInt ∧ a0.toInt ≤ 39))) := by
  refine tM.ofW (cc := cX9_isNoItem) (maxL := 1) (ret := (some .boolean)) (by decide) rfl (Nat.le_of_ble_eq_true rfl) ?_
  intro p e s m below meth c hx hb hr hml hown hts hlk H locs hG hK hE hS ls hl
  have hl : lv_has ls 1 [(0, .int a0)] := hl
  skip
  refine lv_iload_n hx hb dX9_isNoItem_0 rfl (lv_at hl 0 rfl) ?_
  refine lv_if_lt (tgt := 10) hx hb dX9_isNoItem_1 (by decide) (fun c_1 => ?_) (fun c_1 => ?_)
  · skip
    have c_1 : a0.toInt < 0 := q_lt c_1
    refine lv_iconst (v := 1) hx hb dX9_isNoItem_10 (by decide) ?_
    refine lv_goto (tgt := 15) hx hb dX9_isNoItem_11 (by decide) ?_
    have zi_1 : (1 : Int32).toInt = 1 := by decide
    exact ty_zret hx hb hr hlk rfl hG hS (Or.inl ⟨rfl, (by show a0.toInt < 0 ∨ 39 < a0.toInt; omega)⟩) dX9_isNoItem_15
  · skip
    have c_1 : 0 ≤ a0.toInt := q_nlt c_1
    refine lv_iload_n hx hb dX9_isNoItem_4 rfl (lv_at hl 0 rfl) ?_
    refine lv_bipush (v := 40) hx hb dX9_isNoItem_5 (by decide) ?_
    refine lv_pc (pc2 := 7) rfl ?_
    refine lv_icmp_lt (tgt := 14) hx hb dX9_isNoItem_7 (by decide) (fun c_2 => ?_) (fun c_2 => ?_)
    · skip
      have c_2 : a0.toInt < 40 := q_lt c_2
      refine lv_iconst (v := 0) hx hb dX9_isNoItem_14 (by decide) ?_
      have zi_0 : (0 : Int32).toInt = 0 := by decide
      exact ty_zret hx hb hr hlk rfl hG hS (Or.inr ⟨rfl, (by show 0 ≤ a0.toInt; omega), (by show a0.toInt ≤ 39; omega)⟩) dX9_isNoItem_15
    · skip
      have c_2 : 40 ≤ a0.toInt := q_nlt c_2
      refine lv_iconst (v := 1) hx hb dX9_isNoItem_10 (by decide) ?_
      refine lv_goto (tgt := 15) hx hb dX9_isNoItem_11 (by decide) ?_
      have zi_1 : (1 : Int32).toInt = 1 := by decide
      exact ty_zret hx hb hr hlk rfl hG hS (Or.inl ⟨rfl, (by show a0.toInt < 0 ∨ 39 < a0.toInt; omega)⟩) dX9_isNoItem_15

def uaX9_isNoStore : List Cond := .code yX9_isNoStore cX9_isNoStore 1 (some .boolean) :: ([])
set_option maxHeartbeats 4000000 in
set_option maxRecDepth 100000 in
theorem a_X9_isNoStore (l : Launch) (D : va_G) (t : Nat → Nat) (cI cL cC : ClassId) (Fa : tFT) (a0 : Int32) : tM l yX9_isNoStore uaX9_isNoStore 0 0 D Fa Fa t cI cL cC [.int a0] wr0 (pI (fun r => (r = 1 ∧ (a0.toInt < 0 ∨ 15 < a0.toInt)) ∨ (r = 0 ∧ 0 ≤ a0.toInt ∧ a0.toInt ≤ 15))) := by
  refine tM.ofW (cc := cX9_isNoStore) (maxL := 1) (ret := (some .boolean)) (by decide) rfl (Nat.le_of_ble_eq_true rfl) ?_
  intro p e s m below meth c hx hb hr hml hown hts hlk H locs hG hK hE hS ls hl
  have hl : lv_has ls 1 [(0, .int a0)] := hl
  skip
  refine lv_iload_n hx hb dX9_isNoStore_0 rfl (lv_at hl 0 rfl) ?_
  refine lv_if_lt (tgt := 10) hx hb dX9_isNoStore_1 (by decide) (fun c_1 => ?_) (fun c_1 => ?_)
  · skip
    have c_1 : a0.toInt < 0 := q_lt c_1
    refine lv_iconst (v := 1) hx hb dX9_isNoStore_10 (by decide) ?_
    refine lv_goto (tgt := 15) hx hb dX9_isNoStore_11 (by decide) ?_
    have zi_1 : (1 : Int32).toInt = 1 := by decide
    exact ty_zret hx hb hr hlk rfl hG hS (Or.inl ⟨rfl, (by show a0.toInt < 0 ∨ 15 < a0.toInt; omega)⟩) dX9_isNoStore_15
  · skip
    have c_1 : 0 ≤ a0.toInt := q_nlt c_1
    refine lv_iload_n hx hb dX9_isNoStore_4 rfl (lv_at hl 0 rfl) ?_
    refine lv_bipush (v := 16) hx hb dX9_isNoStore_5 (by decide) ?_
    refine lv_pc (pc2 := 7) rfl ?_
    refine lv_icmp_lt (tgt := 14) hx hb dX9_isNoStore_7 (by decide) (fun c_2 => ?_) (fun c_2 => ?_)
    · skip
      have c_2 : a0.toInt < 16 := q_lt c_2
      refine lv_iconst (v := 0) hx hb dX9_isNoStore_14 (by decide) ?_
      have zi_0 : (0 : Int32).toInt = 0 := by decide
      exact ty_zret hx hb hr hlk rfl hG hS (Or.inr ⟨rfl, (by show 0 ≤ a0.toInt; omega), (by show a0.toInt ≤ 15; omega)⟩) dX9_isNoStore_15
    · skip
      have c_2 : 16 ≤ a0.toInt := q_nlt c_2
      refine lv_iconst (v := 1) hx hb dX9_isNoStore_10 (by decide) ?_
      refine lv_goto (tgt := 15) hx hb dX9_isNoStore_11 (by decide) ?_
      have zi_1 : (1 : Int32).toInt = 1 := by decide
      exact ty_zret hx hb hr hlk rfl hG hS (Or.inl ⟨rfl, (by show a0.toInt < 0 ∨ 15 < a0.toInt; omega)⟩) dX9_isNoStore_15

def uaX9_isNoGauge : List Cond := .code yX9_isNoGauge cX9_isNoGauge 1 (some .boolean) :: ([])
set_option maxHeartbeats 4000000 in
set_option maxRecDepth 100000 in
theorem a_X9_isNoGauge (l : Launch) (D : va_G) (t : Nat → Nat) (cI cL cC : ClassId) (Fa : tFT) (a0 : Int32) : tM l yX9_isNoGauge uaX9_isNoGauge 0 0 D Fa Fa t cI cL cC [.int a0] wr0 (pI (fun r => (r = 1 ∧ (a0.toInt < 0 ∨ 3 < a0.toInt)) ∨ (r = 0 ∧ 0 ≤ a0.toInt ∧ a0.toInt ≤ 3))) := by
  refine tM.ofW (cc := cX9_isNoGauge) (maxL := 1) (ret := (some .boolean)) (by decide) rfl (Nat.le_of_ble_eq_true rfl) ?_
  intro p e s m below meth c hx hb hr hml hown hts hlk H locs hG hK hE hS ls hl
  have hl : lv_has ls 1 [(0, .int a0)] := hl
  skip
  refine lv_iload_n hx hb dX9_isNoGauge_0 rfl (lv_at hl 0 rfl) ?_
  refine lv_if_lt (tgt := 9) hx hb dX9_isNoGauge_1 (by decide) (fun c_1 => ?_) (fun c_1 => ?_)
  · skip
    have c_1 : a0.toInt < 0 := q_lt c_1
    refine lv_iconst (v := 1) hx hb dX9_isNoGauge_9 (by decide) ?_
    refine lv_goto (tgt := 14) hx hb dX9_isNoGauge_10 (by decide) ?_
    have zi_1 : (1 : Int32).toInt = 1 := by decide
    exact ty_zret hx hb hr hlk rfl hG hS (Or.inl ⟨rfl, (by show a0.toInt < 0 ∨ 3 < a0.toInt; omega)⟩) dX9_isNoGauge_14
  · skip
    have c_1 : 0 ≤ a0.toInt := q_nlt c_1
    refine lv_iload_n hx hb dX9_isNoGauge_4 rfl (lv_at hl 0 rfl) ?_
    refine lv_iconst (v := 4) hx hb dX9_isNoGauge_5 (by decide) ?_
    refine lv_pc (pc2 := 6) rfl ?_
    refine lv_icmp_lt (tgt := 13) hx hb dX9_isNoGauge_6 (by decide) (fun c_2 => ?_) (fun c_2 => ?_)
    · skip
      have c_2 : a0.toInt < 4 := q_lt c_2
      refine lv_iconst (v := 0) hx hb dX9_isNoGauge_13 (by decide) ?_
      have zi_0 : (0 : Int32).toInt = 0 := by decide
      exact ty_zret hx hb hr hlk rfl hG hS (Or.inr ⟨rfl, (by show 0 ≤ a0.toInt; omega), (by show a0.toInt ≤ 3; omega)⟩) dX9_isNoGauge_14
    · skip
      have c_2 : 4 ≤ a0.toInt := q_nlt c_2
      refine lv_iconst (v := 1) hx hb dX9_isNoGauge_9 (by decide) ?_
      refine lv_goto (tgt := 14) hx hb dX9_isNoGauge_10 (by decide) ?_
      have zi_1 : (1 : Int32).toInt = 1 := by decide
      exact ty_zret hx hb hr hlk rfl hG hS (Or.inl ⟨rfl, (by show a0.toInt < 0 ∨ 3 < a0.toInt; omega)⟩) dX9_isNoGauge_14

def uaX9_isNoKnob : List Cond := .code yX9_isNoKnob cX9_isNoKnob 1 (some .boolean) :: ([])
set_option maxHeartbeats 4000000 in
set_option maxRecDepth 100000 in
theorem a_X9_isNoKnob (l : Launch) (D : va_G) (t : Nat → Nat) (cI cL cC : ClassId) (Fa : tFT) (a0 : Int32) : tM l yX9_isNoKnob uaX9_isNoKnob 0 0 D Fa Fa t cI cL cC [.int a0] wr0 (pI (fun r => (r = 1 ∧ (a0.toInt < 0 ∨ 1 < a0.toInt)) ∨ (r = 0 ∧ 0 ≤ a0.toInt ∧ a0.toInt ≤ 1))) := by
  refine tM.ofW (cc := cX9_isNoKnob) (maxL := 1) (ret := (some .boolean)) (by decide) rfl (Nat.le_of_ble_eq_true rfl) ?_
  intro p e s m below meth c hx hb hr hml hown hts hlk H locs hG hK hE hS ls hl
  have hl : lv_has ls 1 [(0, .int a0)] := hl
  skip
  refine lv_iload_n hx hb dX9_isNoKnob_0 rfl (lv_at hl 0 rfl) ?_
  refine lv_if_lt (tgt := 9) hx hb dX9_isNoKnob_1 (by decide) (fun c_1 => ?_) (fun c_1 => ?_)
  · skip
    have c_1 : a0.toInt < 0 := q_lt c_1
    refine lv_iconst (v := 1) hx hb dX9_isNoKnob_9 (by decide) ?_
    refine lv_goto (tgt := 14) hx hb dX9_isNoKnob_10 (by decide) ?_
    have zi_1 : (1 : Int32).toInt = 1 := by decide
    exact ty_zret hx hb hr hlk rfl hG hS (Or.inl ⟨rfl, (by show a0.toInt < 0 ∨ 1 < a0.toInt; omega)⟩) dX9_isNoKnob_14
  · skip
    have c_1 : 0 ≤ a0.toInt := q_nlt c_1
    refine lv_iload_n hx hb dX9_isNoKnob_4 rfl (lv_at hl 0 rfl) ?_
    refine lv_iconst (v := 2) hx hb dX9_isNoKnob_5 (by decide) ?_
    refine lv_pc (pc2 := 6) rfl ?_
    refine lv_icmp_lt (tgt := 13) hx hb dX9_isNoKnob_6 (by decide) (fun c_2 => ?_) (fun c_2 => ?_)
    · skip
      have c_2 : a0.toInt < 2 := q_lt c_2
      refine lv_iconst (v := 0) hx hb dX9_isNoKnob_13 (by decide) ?_
      have zi_0 : (0 : Int32).toInt = 0 := by decide
      exact ty_zret hx hb hr hlk rfl hG hS (Or.inr ⟨rfl, (by show 0 ≤ a0.toInt; omega), (by show a0.toInt ≤ 1; omega)⟩) dX9_isNoKnob_14
    · skip
      have c_2 : 2 ≤ a0.toInt := q_nlt c_2
      refine lv_iconst (v := 1) hx hb dX9_isNoKnob_9 (by decide) ?_
      refine lv_goto (tgt := 14) hx hb dX9_isNoKnob_10 (by decide) ?_
      have zi_1 : (1 : Int32).toInt = 1 := by decide
      exact ty_zret hx hb hr hlk rfl hG hS (Or.inl ⟨rfl, (by show a0.toInt < 0 ∨ 1 < a0.toInt; omega)⟩) dX9_isNoKnob_14

def uaX2_namesOf : List Cond := .code yX2_namesOf cX2_namesOf 1 (some .int) :: ([])
set_option maxHeartbeats 4000000 in
set_option maxRecDepth 100000 in
theorem a_X2_namesOf (l : Launch) (D : va_G) (t : Nat → Nat) (cI cL cC : ClassId) (Fa : tFT) (a0 : Int32) (A : Int) (hA : a0.toInt = A) : tM l yX2_namesOf uaX2_namesOf 0 0 D Fa Fa t cI cL cC [.int a0] wr0 (pI (fun r => r.toInt = nmO A)) := by
  refine tM.ofW (cc := cX2_namesOf) (maxL := 1) (ret := (some .int)) (by decide) rfl (Nat.le_of_ble_eq_true rfl) ?_
  intro p e s m below meth c hx hb hr hml hown hts hlk H locs hG hK hE hS ls hl
  have hl : lv_has ls 1 [(0, .int a0)] := hl
  skip
  refine lv_iload_n hx hb dX2_namesOf_0 rfl (lv_at hl 0 rfl) ?_
  by_cases k_1 : a0.toInt = 101
  · refine lv_tableIn (tgt := 106) hx hb dX2_namesOf_1 (by rw [k_1]; decide) (by rw [k_1]; decide) (by rw [k_1]; rfl) (by decide) ?_
    refine lv_iconst (v := 1) hx hb dX2_namesOf_106 (by decide) ?_
    have zi_1 : (1 : Int32).toInt = 1 := by decide
    exact ty_iret hx hb hr hlk hG hS (by show (1 : Int32).toInt = nmO A; rw [← hA, k_1]; decide) dX2_namesOf_107
  by_cases k_2 : a0.toInt = 102
  · refine lv_tableIn (tgt := 108) hx hb dX2_namesOf_1 (by rw [k_2]; decide) (by rw [k_2]; decide) (by rw [k_2]; rfl) (by decide) ?_
    refine lv_iconst (v := 0) hx hb dX2_namesOf_108 (by decide) ?_
    have zi_0 : (0 : Int32).toInt = 0 := by decide
    exact ty_iret hx hb hr hlk hG hS (by show (0 : Int32).toInt = nmO A; rw [← hA, k_2]; decide) dX2_namesOf_109
  by_cases k_3 : a0.toInt = 103
  · refine lv_tableIn (tgt := 104) hx hb dX2_namesOf_1 (by rw [k_3]; decide) (by rw [k_3]; decide) (by rw [k_3]; rfl) (by decide) ?_
    refine lv_iconst (v := 2) hx hb dX2_namesOf_104 (by decide) ?_
    refine lv_pc (pc2 := 105) rfl ?_
    have zi_2 : (2 : Int32).toInt = 2 := by decide
    exact ty_iret hx hb hr hlk hG hS (by show (2 : Int32).toInt = nmO A; rw [← hA, k_3]; decide) dX2_namesOf_105
  by_cases k_4 : a0.toInt = 104
  · refine lv_tableIn (tgt := 108) hx hb dX2_namesOf_1 (by rw [k_4]; decide) (by rw [k_4]; decide) (by rw [k_4]; rfl) (by decide) ?_
    refine lv_iconst (v := 0) hx hb dX2_namesOf_108 (by decide) ?_
    have zi_0 : (0 : Int32).toInt = 0 := by decide
    exact ty_iret hx hb hr hlk hG hS (by show (0 : Int32).toInt = nmO A; rw [← hA, k_4]; decide) dX2_namesOf_109
  by_cases k_5 : a0.toInt = 105
  · refine lv_tableIn (tgt := 108) hx hb dX2_namesOf_1 (by rw [k_5]; decide) (by rw [k_5]; decide) (by rw [k_5]; rfl) (by decide) ?_
    refine lv_iconst (v := 0) hx hb dX2_namesOf_108 (by decide) ?_
    have zi_0 : (0 : Int32).toInt = 0 := by decide
    exact ty_iret hx hb hr hlk hG hS (by show (0 : Int32).toInt = nmO A; rw [← hA, k_5]; decide) dX2_namesOf_109
  by_cases k_6 : a0.toInt = 106
  · refine lv_tableIn (tgt := 108) hx hb dX2_namesOf_1 (by rw [k_6]; decide) (by rw [k_6]; decide) (by rw [k_6]; rfl) (by decide) ?_
    refine lv_iconst (v := 0) hx hb dX2_namesOf_108 (by decide) ?_
    have zi_0 : (0 : Int32).toInt = 0 := by decide
    exact ty_iret hx hb hr hlk hG hS (by show (0 : Int32).toInt = nmO A; rw [← hA, k_6]; decide) dX2_namesOf_109
  by_cases k_7 : a0.toInt = 107
  · refine lv_tableIn (tgt := 108) hx hb dX2_namesOf_1 (by rw [k_7]; decide) (by rw [k_7]; decide) (by rw [k_7]; rfl) (by decide) ?_
    refine lv_iconst (v := 0) hx hb dX2_namesOf_108 (by decide) ?_
    refine lv_pc (pc2 := 109) rfl ?_
    have zi_0 : (0 : Int32).toInt = 0 := by decide
    exact ty_iret hx hb hr hlk hG hS (by show (0 : Int32).toInt = nmO A; rw [← hA, k_7]; decide) dX2_namesOf_109
  by_cases k_8 : a0.toInt = 108
  · refine lv_tableIn (tgt := 104) hx hb dX2_namesOf_1 (by rw [k_8]; decide) (by rw [k_8]; decide) (by rw [k_8]; rfl) (by decide) ?_
    refine lv_iconst (v := 2) hx hb dX2_namesOf_104 (by decide) ?_
    have zi_2 : (2 : Int32).toInt = 2 := by decide
    exact ty_iret hx hb hr hlk hG hS (by show (2 : Int32).toInt = nmO A; rw [← hA, k_8]; decide) dX2_namesOf_105
  by_cases k_9 : a0.toInt = 109
  · refine lv_tableIn (tgt := 104) hx hb dX2_namesOf_1 (by rw [k_9]; decide) (by rw [k_9]; decide) (by rw [k_9]; rfl) (by decide) ?_
    refine lv_iconst (v := 2) hx hb dX2_namesOf_104 (by decide) ?_
    have zi_2 : (2 : Int32).toInt = 2 := by decide
    exact ty_iret hx hb hr hlk hG hS (by show (2 : Int32).toInt = nmO A; rw [← hA, k_9]; decide) dX2_namesOf_105
  by_cases k_10 : a0.toInt = 110
  · refine lv_tableIn (tgt := 106) hx hb dX2_namesOf_1 (by rw [k_10]; decide) (by rw [k_10]; decide) (by rw [k_10]; rfl) (by decide) ?_
    refine lv_iconst (v := 1) hx hb dX2_namesOf_106 (by decide) ?_
    have zi_1 : (1 : Int32).toInt = 1 := by decide
    exact ty_iret hx hb hr hlk hG hS (by show (1 : Int32).toInt = nmO A; rw [← hA, k_10]; decide) dX2_namesOf_107
  by_cases k_11 : a0.toInt = 111
  · refine lv_tableIn (tgt := 104) hx hb dX2_namesOf_1 (by rw [k_11]; decide) (by rw [k_11]; decide) (by rw [k_11]; rfl) (by decide) ?_
    refine lv_iconst (v := 2) hx hb dX2_namesOf_104 (by decide) ?_
    refine lv_pc (pc2 := 105) rfl ?_
    have zi_2 : (2 : Int32).toInt = 2 := by decide
    exact ty_iret hx hb hr hlk hG hS (by show (2 : Int32).toInt = nmO A; rw [← hA, k_11]; decide) dX2_namesOf_105
  by_cases k_12 : a0.toInt = 112
  · refine lv_tableIn (tgt := 108) hx hb dX2_namesOf_1 (by rw [k_12]; decide) (by rw [k_12]; decide) (by rw [k_12]; rfl) (by decide) ?_
    refine lv_iconst (v := 0) hx hb dX2_namesOf_108 (by decide) ?_
    have zi_0 : (0 : Int32).toInt = 0 := by decide
    exact ty_iret hx hb hr hlk hG hS (by show (0 : Int32).toInt = nmO A; rw [← hA, k_12]; decide) dX2_namesOf_109
  by_cases k_13 : a0.toInt = 113
  · refine lv_tableIn (tgt := 108) hx hb dX2_namesOf_1 (by rw [k_13]; decide) (by rw [k_13]; decide) (by rw [k_13]; rfl) (by decide) ?_
    refine lv_iconst (v := 0) hx hb dX2_namesOf_108 (by decide) ?_
    have zi_0 : (0 : Int32).toInt = 0 := by decide
    exact ty_iret hx hb hr hlk hG hS (by show (0 : Int32).toInt = nmO A; rw [← hA, k_13]; decide) dX2_namesOf_109
  by_cases k_14 : a0.toInt = 114
  · refine lv_tableIn (tgt := 106) hx hb dX2_namesOf_1 (by rw [k_14]; decide) (by rw [k_14]; decide) (by rw [k_14]; rfl) (by decide) ?_
    refine lv_iconst (v := 1) hx hb dX2_namesOf_106 (by decide) ?_
    have zi_1 : (1 : Int32).toInt = 1 := by decide
    exact ty_iret hx hb hr hlk hG hS (by show (1 : Int32).toInt = nmO A; rw [← hA, k_14]; decide) dX2_namesOf_107
  by_cases k_15 : a0.toInt = 115
  · refine lv_tableIn (tgt := 106) hx hb dX2_namesOf_1 (by rw [k_15]; decide) (by rw [k_15]; decide) (by rw [k_15]; rfl) (by decide) ?_
    refine lv_iconst (v := 1) hx hb dX2_namesOf_106 (by decide) ?_
    refine lv_pc (pc2 := 107) rfl ?_
    have zi_1 : (1 : Int32).toInt = 1 := by decide
    exact ty_iret hx hb hr hlk hG hS (by show (1 : Int32).toInt = nmO A; rw [← hA, k_15]; decide) dX2_namesOf_107
  by_cases k_16 : a0.toInt = 116
  · refine lv_tableIn (tgt := 104) hx hb dX2_namesOf_1 (by rw [k_16]; decide) (by rw [k_16]; decide) (by rw [k_16]; rfl) (by decide) ?_
    refine lv_iconst (v := 2) hx hb dX2_namesOf_104 (by decide) ?_
    have zi_2 : (2 : Int32).toInt = 2 := by decide
    exact ty_iret hx hb hr hlk hG hS (by show (2 : Int32).toInt = nmO A; rw [← hA, k_16]; decide) dX2_namesOf_105
  by_cases k_17 : a0.toInt = 117
  · refine lv_tableIn (tgt := 108) hx hb dX2_namesOf_1 (by rw [k_17]; decide) (by rw [k_17]; decide) (by rw [k_17]; rfl) (by decide) ?_
    refine lv_iconst (v := 0) hx hb dX2_namesOf_108 (by decide) ?_
    have zi_0 : (0 : Int32).toInt = 0 := by decide
    exact ty_iret hx hb hr hlk hG hS (by show (0 : Int32).toInt = nmO A; rw [← hA, k_17]; decide) dX2_namesOf_109
  by_cases k_18 : a0.toInt = 118
  · refine lv_tableIn (tgt := 108) hx hb dX2_namesOf_1 (by rw [k_18]; decide) (by rw [k_18]; decide) (by rw [k_18]; rfl) (by decide) ?_
    refine lv_iconst (v := 0) hx hb dX2_namesOf_108 (by decide) ?_
    have zi_0 : (0 : Int32).toInt = 0 := by decide
    exact ty_iret hx hb hr hlk hG hS (by show (0 : Int32).toInt = nmO A; rw [← hA, k_18]; decide) dX2_namesOf_109
  by_cases k_19 : a0.toInt = 119
  · refine lv_tableIn (tgt := 108) hx hb dX2_namesOf_1 (by rw [k_19]; decide) (by rw [k_19]; decide) (by rw [k_19]; rfl) (by decide) ?_
    refine lv_iconst (v := 0) hx hb dX2_namesOf_108 (by decide) ?_
    refine lv_pc (pc2 := 109) rfl ?_
    have zi_0 : (0 : Int32).toInt = 0 := by decide
    exact ty_iret hx hb hr hlk hG hS (by show (0 : Int32).toInt = nmO A; rw [← hA, k_19]; decide) dX2_namesOf_109
  by_cases k_20 : a0.toInt = 120
  · refine lv_tableIn (tgt := 108) hx hb dX2_namesOf_1 (by rw [k_20]; decide) (by rw [k_20]; decide) (by rw [k_20]; rfl) (by decide) ?_
    refine lv_iconst (v := 0) hx hb dX2_namesOf_108 (by decide) ?_
    have zi_0 : (0 : Int32).toInt = 0 := by decide
    exact ty_iret hx hb hr hlk hG hS (by show (0 : Int32).toInt = nmO A; rw [← hA, k_20]; decide) dX2_namesOf_109
  by_cases k_21 : a0.toInt = 121
  · refine lv_tableIn (tgt := 108) hx hb dX2_namesOf_1 (by rw [k_21]; decide) (by rw [k_21]; decide) (by rw [k_21]; rfl) (by decide) ?_
    refine lv_iconst (v := 0) hx hb dX2_namesOf_108 (by decide) ?_
    have zi_0 : (0 : Int32).toInt = 0 := by decide
    exact ty_iret hx hb hr hlk hG hS (by show (0 : Int32).toInt = nmO A; rw [← hA, k_21]; decide) dX2_namesOf_109
  by_cases k_22 : a0.toInt = 122
  · refine lv_tableIn (tgt := 106) hx hb dX2_namesOf_1 (by rw [k_22]; decide) (by rw [k_22]; decide) (by rw [k_22]; rfl) (by decide) ?_
    refine lv_iconst (v := 1) hx hb dX2_namesOf_106 (by decide) ?_
    have zi_1 : (1 : Int32).toInt = 1 := by decide
    exact ty_iret hx hb hr hlk hG hS (by show (1 : Int32).toInt = nmO A; rw [← hA, k_22]; decide) dX2_namesOf_107
  refine lv_tableOut (tgt := 108) hx hb dX2_namesOf_1 (by omega) (by decide) ?_
  refine lv_iconst (v := 0) hx hb dX2_namesOf_108 (by decide) ?_
  refine lv_pc (pc2 := 109) rfl ?_
  have zi_0 : (0 : Int32).toInt = 0 := by decide
  exact ty_iret hx hb hr hlk hG hS (by show (0 : Int32).toInt = nmO A; rw [nmO_out (by omega)]; decide) dX2_namesOf_109

def uaX2_numbersOf : List Cond := .code yX2_numbersOf cX2_numbersOf 1 (some .int) :: ([])
set_option maxHeartbeats 4000000 in
set_option maxRecDepth 100000 in
theorem a_X2_numbersOf (l : Launch) (D : va_G) (t : Nat → Nat) (cI cL cC : ClassId) (Fa : tFT) (a0 : Int32) (A : Int) (hA : a0.toInt = A) : tM l yX2_numbersOf uaX2_numbersOf 0 0 D Fa Fa t cI cL cC [.int a0] wr0 (pI (fun r => r.toInt = nbO A)) := by
  refine tM.ofW (cc := cX2_numbersOf) (maxL := 1) (ret := (some .int)) (by decide) rfl (Nat.le_of_ble_eq_true rfl) ?_
  intro p e s m below meth c hx hb hr hml hown hts hlk H locs hG hK hE hS ls hl
  have hl : lv_has ls 1 [(0, .int a0)] := hl
  skip
  refine lv_iload_n hx hb dX2_numbersOf_0 rfl (lv_at hl 0 rfl) ?_
  by_cases k_1 : a0.toInt = 101
  · refine lv_tableIn (tgt := 84) hx hb dX2_numbersOf_1 (by rw [k_1]; decide) (by rw [k_1]; decide) (by rw [k_1]; rfl) (by decide) ?_
    refine lv_iconst (v := 1) hx hb dX2_numbersOf_84 (by decide) ?_
    have zi_1 : (1 : Int32).toInt = 1 := by decide
    exact ty_iret hx hb hr hlk hG hS (by show (1 : Int32).toInt = nbO A; rw [← hA, k_1]; decide) dX2_numbersOf_85
  by_cases k_2 : a0.toInt = 102
  · refine lv_tableIn (tgt := 86) hx hb dX2_numbersOf_1 (by rw [k_2]; decide) (by rw [k_2]; decide) (by rw [k_2]; rfl) (by decide) ?_
    refine lv_iconst (v := 0) hx hb dX2_numbersOf_86 (by decide) ?_
    have zi_0 : (0 : Int32).toInt = 0 := by decide
    exact ty_iret hx hb hr hlk hG hS (by show (0 : Int32).toInt = nbO A; rw [← hA, k_2]; decide) dX2_numbersOf_87
  by_cases k_3 : a0.toInt = 103
  · refine lv_tableIn (tgt := 84) hx hb dX2_numbersOf_1 (by rw [k_3]; decide) (by rw [k_3]; decide) (by rw [k_3]; rfl) (by decide) ?_
    refine lv_iconst (v := 1) hx hb dX2_numbersOf_84 (by decide) ?_
    refine lv_pc (pc2 := 85) rfl ?_
    have zi_1 : (1 : Int32).toInt = 1 := by decide
    exact ty_iret hx hb hr hlk hG hS (by show (1 : Int32).toInt = nbO A; rw [← hA, k_3]; decide) dX2_numbersOf_85
  by_cases k_4 : a0.toInt = 104
  · refine lv_tableIn (tgt := 86) hx hb dX2_numbersOf_1 (by rw [k_4]; decide) (by rw [k_4]; decide) (by rw [k_4]; rfl) (by decide) ?_
    refine lv_iconst (v := 0) hx hb dX2_numbersOf_86 (by decide) ?_
    have zi_0 : (0 : Int32).toInt = 0 := by decide
    exact ty_iret hx hb hr hlk hG hS (by show (0 : Int32).toInt = nbO A; rw [← hA, k_4]; decide) dX2_numbersOf_87
  by_cases k_5 : a0.toInt = 105
  · refine lv_tableIn (tgt := 86) hx hb dX2_numbersOf_1 (by rw [k_5]; decide) (by rw [k_5]; decide) (by rw [k_5]; rfl) (by decide) ?_
    refine lv_iconst (v := 0) hx hb dX2_numbersOf_86 (by decide) ?_
    have zi_0 : (0 : Int32).toInt = 0 := by decide
    exact ty_iret hx hb hr hlk hG hS (by show (0 : Int32).toInt = nbO A; rw [← hA, k_5]; decide) dX2_numbersOf_87
  by_cases k_6 : a0.toInt = 106
  · refine lv_tableIn (tgt := 86) hx hb dX2_numbersOf_1 (by rw [k_6]; decide) (by rw [k_6]; decide) (by rw [k_6]; rfl) (by decide) ?_
    refine lv_iconst (v := 0) hx hb dX2_numbersOf_86 (by decide) ?_
    have zi_0 : (0 : Int32).toInt = 0 := by decide
    exact ty_iret hx hb hr hlk hG hS (by show (0 : Int32).toInt = nbO A; rw [← hA, k_6]; decide) dX2_numbersOf_87
  by_cases k_7 : a0.toInt = 107
  · refine lv_tableIn (tgt := 86) hx hb dX2_numbersOf_1 (by rw [k_7]; decide) (by rw [k_7]; decide) (by rw [k_7]; rfl) (by decide) ?_
    refine lv_iconst (v := 0) hx hb dX2_numbersOf_86 (by decide) ?_
    refine lv_pc (pc2 := 87) rfl ?_
    have zi_0 : (0 : Int32).toInt = 0 := by decide
    exact ty_iret hx hb hr hlk hG hS (by show (0 : Int32).toInt = nbO A; rw [← hA, k_7]; decide) dX2_numbersOf_87
  by_cases k_8 : a0.toInt = 108
  · refine lv_tableIn (tgt := 80) hx hb dX2_numbersOf_1 (by rw [k_8]; decide) (by rw [k_8]; decide) (by rw [k_8]; rfl) (by decide) ?_
    refine lv_iconst (v := 3) hx hb dX2_numbersOf_80 (by decide) ?_
    have zi_3 : (3 : Int32).toInt = 3 := by decide
    exact ty_iret hx hb hr hlk hG hS (by show (3 : Int32).toInt = nbO A; rw [← hA, k_8]; decide) dX2_numbersOf_81
  by_cases k_9 : a0.toInt = 109
  · refine lv_tableIn (tgt := 84) hx hb dX2_numbersOf_1 (by rw [k_9]; decide) (by rw [k_9]; decide) (by rw [k_9]; rfl) (by decide) ?_
    refine lv_iconst (v := 1) hx hb dX2_numbersOf_84 (by decide) ?_
    have zi_1 : (1 : Int32).toInt = 1 := by decide
    exact ty_iret hx hb hr hlk hG hS (by show (1 : Int32).toInt = nbO A; rw [← hA, k_9]; decide) dX2_numbersOf_85
  by_cases k_10 : a0.toInt = 110
  · refine lv_tableIn (tgt := 84) hx hb dX2_numbersOf_1 (by rw [k_10]; decide) (by rw [k_10]; decide) (by rw [k_10]; rfl) (by decide) ?_
    refine lv_iconst (v := 1) hx hb dX2_numbersOf_84 (by decide) ?_
    have zi_1 : (1 : Int32).toInt = 1 := by decide
    exact ty_iret hx hb hr hlk hG hS (by show (1 : Int32).toInt = nbO A; rw [← hA, k_10]; decide) dX2_numbersOf_85
  by_cases k_11 : a0.toInt = 111
  · refine lv_tableIn (tgt := 86) hx hb dX2_numbersOf_1 (by rw [k_11]; decide) (by rw [k_11]; decide) (by rw [k_11]; rfl) (by decide) ?_
    refine lv_iconst (v := 0) hx hb dX2_numbersOf_86 (by decide) ?_
    refine lv_pc (pc2 := 87) rfl ?_
    have zi_0 : (0 : Int32).toInt = 0 := by decide
    exact ty_iret hx hb hr hlk hG hS (by show (0 : Int32).toInt = nbO A; rw [← hA, k_11]; decide) dX2_numbersOf_87
  by_cases k_12 : a0.toInt = 112
  · refine lv_tableIn (tgt := 86) hx hb dX2_numbersOf_1 (by rw [k_12]; decide) (by rw [k_12]; decide) (by rw [k_12]; rfl) (by decide) ?_
    refine lv_iconst (v := 0) hx hb dX2_numbersOf_86 (by decide) ?_
    have zi_0 : (0 : Int32).toInt = 0 := by decide
    exact ty_iret hx hb hr hlk hG hS (by show (0 : Int32).toInt = nbO A; rw [← hA, k_12]; decide) dX2_numbersOf_87
  by_cases k_13 : a0.toInt = 113
  · refine lv_tableIn (tgt := 86) hx hb dX2_numbersOf_1 (by rw [k_13]; decide) (by rw [k_13]; decide) (by rw [k_13]; rfl) (by decide) ?_
    refine lv_iconst (v := 0) hx hb dX2_numbersOf_86 (by decide) ?_
    have zi_0 : (0 : Int32).toInt = 0 := by decide
    exact ty_iret hx hb hr hlk hG hS (by show (0 : Int32).toInt = nbO A; rw [← hA, k_13]; decide) dX2_numbersOf_87
  by_cases k_14 : a0.toInt = 114
  · refine lv_tableIn (tgt := 84) hx hb dX2_numbersOf_1 (by rw [k_14]; decide) (by rw [k_14]; decide) (by rw [k_14]; rfl) (by decide) ?_
    refine lv_iconst (v := 1) hx hb dX2_numbersOf_84 (by decide) ?_
    have zi_1 : (1 : Int32).toInt = 1 := by decide
    exact ty_iret hx hb hr hlk hG hS (by show (1 : Int32).toInt = nbO A; rw [← hA, k_14]; decide) dX2_numbersOf_85
  by_cases k_15 : a0.toInt = 115
  · refine lv_tableIn (tgt := 82) hx hb dX2_numbersOf_1 (by rw [k_15]; decide) (by rw [k_15]; decide) (by rw [k_15]; rfl) (by decide) ?_
    refine lv_iconst (v := 2) hx hb dX2_numbersOf_82 (by decide) ?_
    refine lv_pc (pc2 := 83) rfl ?_
    have zi_2 : (2 : Int32).toInt = 2 := by decide
    exact ty_iret hx hb hr hlk hG hS (by show (2 : Int32).toInt = nbO A; rw [← hA, k_15]; decide) dX2_numbersOf_83
  by_cases k_16 : a0.toInt = 116
  · refine lv_tableIn (tgt := 84) hx hb dX2_numbersOf_1 (by rw [k_16]; decide) (by rw [k_16]; decide) (by rw [k_16]; rfl) (by decide) ?_
    refine lv_iconst (v := 1) hx hb dX2_numbersOf_84 (by decide) ?_
    have zi_1 : (1 : Int32).toInt = 1 := by decide
    exact ty_iret hx hb hr hlk hG hS (by show (1 : Int32).toInt = nbO A; rw [← hA, k_16]; decide) dX2_numbersOf_85
  refine lv_tableOut (tgt := 86) hx hb dX2_numbersOf_1 (by omega) (by decide) ?_
  refine lv_iconst (v := 0) hx hb dX2_numbersOf_86 (by decide) ?_
  have zi_0 : (0 : Int32).toInt = 0 := by decide
  exact ty_iret hx hb hr hlk hG hS (by show (0 : Int32).toInt = nbO A; rw [nbO_out (by omega)]; decide) dX2_numbersOf_87

def uaX2_isUpTo : List Cond := .code yX2_isUpTo cX2_isUpTo 2 (some .boolean) :: ([])
set_option maxHeartbeats 4000000 in
set_option maxRecDepth 100000 in
theorem a_X2_isUpTo (l : Launch) (D : va_G) (t : Nat → Nat) (cI cL cC : ClassId) (Fa : tFT) (a0 : Int32) (a1 : Int32) : tM l yX2_isUpTo uaX2_isUpTo 0 0 D Fa Fa t cI cL cC [.int a0, .int a1] wr0 (pI (fun r => (r = 1 ∧ 0 ≤ a0.toInt ∧ a0.toInt ≤ a1.toInt) ∨ (r = 0 ∧ (a0.toInt < 0 ∨ a1.toInt < a0.toInt)))) := by
  refine tM.ofW (cc := cX2_isUpTo) (maxL := 2) (ret := (some .boolean)) (by decide) rfl (Nat.le_of_ble_eq_true rfl) ?_
  intro p e s m below meth c hx hb hr hml hown hts hlk H locs hG hK hE hS ls hl
  have hl : lv_has ls 2 [(0, .int a0), (1, .int a1)] := hl
  skip
  refine lv_iload_n hx hb dX2_isUpTo_0 rfl (lv_at hl 0 rfl) ?_
  refine lv_if_lt (tgt := 13) hx hb dX2_isUpTo_1 (by decide) (fun c_1 => ?_) (fun c_1 => ?_)
  · skip
    have c_1 : a0.toInt < 0 := q_lt c_1
    refine lv_iconst (v := 0) hx hb dX2_isUpTo_13 (by decide) ?_
    have zi_0 : (0 : Int32).toInt = 0 := by decide
    exact ty_zret hx hb hr hlk rfl hG hS (Or.inr ⟨rfl, (by show a0.toInt < 0 ∨ a1.toInt < a0.toInt; omega)⟩) dX2_isUpTo_14
  · skip
    have c_1 : 0 ≤ a0.toInt := q_nlt c_1
    refine lv_iload_n hx hb dX2_isUpTo_4 rfl (lv_at hl 0 rfl) ?_
    refine lv_iload_n hx hb dX2_isUpTo_5 rfl (lv_at hl 1 rfl) ?_
    refine lv_icmp_gt (tgt := 13) hx hb dX2_isUpTo_6 (by decide) (fun c_2 => ?_) (fun c_2 => ?_)
    · skip
      have c_2 : a1.toInt < a0.toInt := q_lt c_2
      refine lv_pc (pc2 := 13) rfl ?_
      refine lv_iconst (v := 0) hx hb dX2_isUpTo_13 (by decide) ?_
      have zi_0 : (0 : Int32).toInt = 0 := by decide
      exact ty_zret hx hb hr hlk rfl hG hS (Or.inr ⟨rfl, (by show a0.toInt < 0 ∨ a1.toInt < a0.toInt; omega)⟩) dX2_isUpTo_14
    · skip
      have c_2 : a0.toInt ≤ a1.toInt := q_nlt c_2
      refine lv_iconst (v := 1) hx hb dX2_isUpTo_9 (by decide) ?_
      refine lv_goto (tgt := 14) hx hb dX2_isUpTo_10 (by decide) ?_
      have zi_1 : (1 : Int32).toInt = 1 := by decide
      exact ty_zret hx hb hr hlk rfl hG hS (Or.inl ⟨rfl, (by show 0 ≤ a0.toInt; omega), (by show a0.toInt ≤ a1.toInt; omega)⟩) dX2_isUpTo_14

def uaX2_areNumbersAsTold : List Cond := .code yX2_areNumbersAsTold cX2_areNumbersAsTold 4 (some .boolean) :: ([.methodLink RX2 10 yX2_isUpTo, .static yX2_isUpTo, .initialized RX2, .constant RX2 9 (1000000), .code yX2_isUpTo cX2_isUpTo 2 (some .boolean)])
set_option maxRecDepth 20000 in
theorem gu_aX2_areNumbersAsTold_aX2_isUpTo_10 : GoodIn uaX2_areNumbersAsTold (va_wsS RX2 10 yX2_isUpTo uaX2_isUpTo) := goodIn_r _ [1, 2, 3, 5] rfl (by decide +kernel)
set_option maxHeartbeats 4000000 in
set_option maxRecDepth 100000 in
theorem a_X2_areNumbersAsTold (l : Launch) (D : va_G) (t : Nat → Nat) (cI cL cC : ClassId) (Fa : tFT) (a0 : Int32) (a1 : Int32) (a2 : Int32) (a3 : Int32) : tM l yX2_areNumbersAsTold uaX2_areNumbersAsTold 1 21 D Fa Fa t cI cL cC [.int a0, .int a1, .int a2, .int a3] wr0 (pI (fun r => (r = 1 ∧ well a0.toInt a1 a2 a3) ∨ (r = 0 ∧ ¬ well a0.toInt a1 a2 a3))) := by
  refine tM.ofW (cc := cX2_areNumbersAsTold) (maxL := 4) (ret := (some .boolean)) (by decide) rfl (Nat.le_of_ble_eq_true rfl) ?_
  intro p e s m below meth c hx hb hr hml hown hts hlk H locs hG hK hE hS ls hl
  have hl : lv_has ls 4 [(0, .int a0), (1, .int a1), (2, .int a2), (3, .int a3)] := hl
  skip
  refine lv_iload_n hx hb dX2_areNumbersAsTold_0 rfl (lv_at hl 0 rfl) ?_
  by_cases k_1 : a0.toInt = 101
  · refine lv_tableIn (tgt := 142) hx hb dX2_areNumbersAsTold_1 (by rw [k_1]; decide) (by rw [k_1]; decide) (by rw [k_1]; rfl) (by decide) ?_
    refine lv_iload_n hx hb dX2_areNumbersAsTold_142 rfl (lv_at hl 1 rfl) ?_
    refine lv_sipush (v := 1000) hx hb dX2_areNumbersAsTold_143 (by decide) ?_
    have zi_1000 : (1000 : Int32).toInt = 1000 := by decide
    refine ty_calli (W.runS (As := [.int a1, .int 1000]) (rest := []) ⟨hx, hb, hml, hown, hts⟩ (a_X2_isUpTo l D t cI cL cC Fa a1 1000   ) (va_cwS 2 hts gu_aX2_areNumbersAsTold_aX2_isUpTo_10 rfl rfl rfl (by decide +kernel) ⟨Nat.le_of_ble_eq_true rfl, Nat.le_of_ble_eq_true rfl⟩) (tP_S hG hE) rfl rfl hl.1 rfl (lv_room (Nat.le_of_ble_eq_true rfl)) dX2_areNumbersAsTold_146 ⟨Nat.le_of_ble_eq_true rfl, Nat.le_of_ble_eq_true rfl⟩) hS (fun _ h => h) (fun r_2 H locs hp_3 hG hS o_4 => ?_)
    have hp_3 : (r_2 = 1 ∧ 0 ≤ a1.toInt ∧ a1.toInt ≤ (1000 : Int32).toInt) ∨ (r_2 = 0 ∧ (a1.toInt < 0 ∨ (1000 : Int32).toInt < a1.toInt)) := hp_3
    rcases hp_3 with ⟨rfl, p_6, p_7⟩ | ⟨rfl, p_8⟩
    · skip
      have zi_1 : (1 : Int32).toInt = 1 := by decide
      exact ty_zret hx hb hr hlk rfl hG hS (Or.inl ⟨rfl, (by show well a0.toInt a1 a2 a3; refine ⟨fun q => ?_, fun q => ?_, fun q => ?_, fun q => ?_, fun q => ?_, fun q => ?_⟩ <;> omega)⟩) dX2_areNumbersAsTold_149
    · skip
      have zi_0 : (0 : Int32).toInt = 0 := by decide
      exact ty_zret hx hb hr hlk rfl hG hS (Or.inr ⟨rfl, (by show ¬ well a0.toInt a1 a2 a3; intro ⟨h1, h2, h3, h4, h5, h6⟩; omega)⟩) dX2_areNumbersAsTold_149
  by_cases k_9 : a0.toInt = 102
  · refine lv_tableIn (tgt := 185) hx hb dX2_areNumbersAsTold_1 (by rw [k_9]; decide) (by rw [k_9]; decide) (by rw [k_9]; rfl) (by decide) ?_
    refine lv_pc (pc2 := 185) rfl ?_
    refine lv_iconst (v := 1) hx hb dX2_areNumbersAsTold_185 (by decide) ?_
    have zi_1 : (1 : Int32).toInt = 1 := by decide
    exact ty_zret hx hb hr hlk rfl hG hS (Or.inl ⟨rfl, (by show well a0.toInt a1 a2 a3; refine ⟨fun q => ?_, fun q => ?_, fun q => ?_, fun q => ?_, fun q => ?_, fun q => ?_⟩ <;> omega)⟩) dX2_areNumbersAsTold_186
  by_cases k_10 : a0.toInt = 103
  · refine lv_tableIn (tgt := 150) hx hb dX2_areNumbersAsTold_1 (by rw [k_10]; decide) (by rw [k_10]; decide) (by rw [k_10]; rfl) (by decide) ?_
    refine lv_iload_n hx hb dX2_areNumbersAsTold_150 rfl (lv_at hl 1 rfl) ?_
    refine lv_sipush (v := 10000) hx hb dX2_areNumbersAsTold_151 (by decide) ?_
    have zi_10000 : (10000 : Int32).toInt = 10000 := by decide
    refine ty_calli (W.runS (As := [.int a1, .int 10000]) (rest := []) ⟨hx, hb, hml, hown, hts⟩ (a_X2_isUpTo l D t cI cL cC Fa a1 10000   ) (va_cwS 2 hts gu_aX2_areNumbersAsTold_aX2_isUpTo_10 rfl rfl rfl (by decide +kernel) ⟨Nat.le_of_ble_eq_true rfl, Nat.le_of_ble_eq_true rfl⟩) (tP_S hG hE) rfl rfl hl.1 rfl (lv_room (Nat.le_of_ble_eq_true rfl)) dX2_areNumbersAsTold_154 ⟨Nat.le_of_ble_eq_true rfl, Nat.le_of_ble_eq_true rfl⟩) hS (fun _ h => h) (fun r_11 H locs hp_12 hG hS o_13 => ?_)
    have hp_12 : (r_11 = 1 ∧ 0 ≤ a1.toInt ∧ a1.toInt ≤ (10000 : Int32).toInt) ∨ (r_11 = 0 ∧ (a1.toInt < 0 ∨ (10000 : Int32).toInt < a1.toInt)) := hp_12
    rcases hp_12 with ⟨rfl, p_15, p_16⟩ | ⟨rfl, p_17⟩
    · skip
      have zi_1 : (1 : Int32).toInt = 1 := by decide
      exact ty_zret hx hb hr hlk rfl hG hS (Or.inl ⟨rfl, (by show well a0.toInt a1 a2 a3; refine ⟨fun q => ?_, fun q => ?_, fun q => ?_, fun q => ?_, fun q => ?_, fun q => ?_⟩ <;> omega)⟩) dX2_areNumbersAsTold_157
    · skip
      have zi_0 : (0 : Int32).toInt = 0 := by decide
      exact ty_zret hx hb hr hlk rfl hG hS (Or.inr ⟨rfl, (by show ¬ well a0.toInt a1 a2 a3; intro ⟨h1, h2, h3, h4, h5, h6⟩; omega)⟩) dX2_areNumbersAsTold_157
  by_cases k_18 : a0.toInt = 104
  · refine lv_tableIn (tgt := 185) hx hb dX2_areNumbersAsTold_1 (by rw [k_18]; decide) (by rw [k_18]; decide) (by rw [k_18]; rfl) (by decide) ?_
    refine lv_iconst (v := 1) hx hb dX2_areNumbersAsTold_185 (by decide) ?_
    refine lv_pc (pc2 := 186) rfl ?_
    have zi_1 : (1 : Int32).toInt = 1 := by decide
    exact ty_zret hx hb hr hlk rfl hG hS (Or.inl ⟨rfl, (by show well a0.toInt a1 a2 a3; refine ⟨fun q => ?_, fun q => ?_, fun q => ?_, fun q => ?_, fun q => ?_, fun q => ?_⟩ <;> omega)⟩) dX2_areNumbersAsTold_186
  by_cases k_19 : a0.toInt = 105
  · refine lv_tableIn (tgt := 185) hx hb dX2_areNumbersAsTold_1 (by rw [k_19]; decide) (by rw [k_19]; decide) (by rw [k_19]; rfl) (by decide) ?_
    refine lv_iconst (v := 1) hx hb dX2_areNumbersAsTold_185 (by decide) ?_
    have zi_1 : (1 : Int32).toInt = 1 := by decide
    exact ty_zret hx hb hr hlk rfl hG hS (Or.inl ⟨rfl, (by show well a0.toInt a1 a2 a3; refine ⟨fun q => ?_, fun q => ?_, fun q => ?_, fun q => ?_, fun q => ?_, fun q => ?_⟩ <;> omega)⟩) dX2_areNumbersAsTold_186
  by_cases k_20 : a0.toInt = 106
  · refine lv_tableIn (tgt := 185) hx hb dX2_areNumbersAsTold_1 (by rw [k_20]; decide) (by rw [k_20]; decide) (by rw [k_20]; rfl) (by decide) ?_
    refine lv_iconst (v := 1) hx hb dX2_areNumbersAsTold_185 (by decide) ?_
    have zi_1 : (1 : Int32).toInt = 1 := by decide
    exact ty_zret hx hb hr hlk rfl hG hS (Or.inl ⟨rfl, (by show well a0.toInt a1 a2 a3; refine ⟨fun q => ?_, fun q => ?_, fun q => ?_, fun q => ?_, fun q => ?_, fun q => ?_⟩ <;> omega)⟩) dX2_areNumbersAsTold_186
  by_cases k_21 : a0.toInt = 107
  · refine lv_tableIn (tgt := 185) hx hb dX2_areNumbersAsTold_1 (by rw [k_21]; decide) (by rw [k_21]; decide) (by rw [k_21]; rfl) (by decide) ?_
    refine lv_iconst (v := 1) hx hb dX2_areNumbersAsTold_185 (by decide) ?_
    have zi_1 : (1 : Int32).toInt = 1 := by decide
    exact ty_zret hx hb hr hlk rfl hG hS (Or.inl ⟨rfl, (by show well a0.toInt a1 a2 a3; refine ⟨fun q => ?_, fun q => ?_, fun q => ?_, fun q => ?_, fun q => ?_, fun q => ?_⟩ <;> omega)⟩) dX2_areNumbersAsTold_186
  by_cases k_22 : a0.toInt = 108
  · refine lv_tableIn (tgt := 104) hx hb dX2_areNumbersAsTold_1 (by rw [k_22]; decide) (by rw [k_22]; decide) (by rw [k_22]; rfl) (by decide) ?_
    refine lv_iload_n hx hb dX2_areNumbersAsTold_104 rfl (lv_at hl 2 rfl) ?_
    refine lv_pc (pc2 := 105) rfl ?_
    refine lv_iconst (v := 1) hx hb dX2_areNumbersAsTold_105 (by decide) ?_
    refine lv_icmp_lt (tgt := 140) hx hb dX2_areNumbersAsTold_106 (by decide) (fun c_23 => ?_) (fun c_23 => ?_)
    · skip
      have c_23 : a2.toInt < 1 := q_lt c_23
      refine lv_iconst (v := 0) hx hb dX2_areNumbersAsTold_140 (by decide) ?_
      have zi_0 : (0 : Int32).toInt = 0 := by decide
      exact ty_zret hx hb hr hlk rfl hG hS (Or.inr ⟨rfl, (by show ¬ well a0.toInt a1 a2 a3; intro ⟨h1, h2, h3, h4, h5, h6⟩; omega)⟩) dX2_areNumbersAsTold_141
    · skip
      have c_23 : 1 ≤ a2.toInt := q_nlt c_23
      refine lv_iload_n hx hb dX2_areNumbersAsTold_109 rfl (lv_at hl 2 rfl) ?_
      refine lv_sipush (v := 1000) hx hb dX2_areNumbersAsTold_110 (by decide) ?_
      have zi_1000 : (1000 : Int32).toInt = 1000 := by decide
      refine ty_calli (W.runS (As := [.int a2, .int 1000]) (rest := []) ⟨hx, hb, hml, hown, hts⟩ (a_X2_isUpTo l D t cI cL cC Fa a2 1000   ) (va_cwS 2 hts gu_aX2_areNumbersAsTold_aX2_isUpTo_10 rfl rfl rfl (by decide +kernel) ⟨Nat.le_of_ble_eq_true rfl, Nat.le_of_ble_eq_true rfl⟩) (tP_S hG hE) rfl rfl hl.1 rfl (lv_room (Nat.le_of_ble_eq_true rfl)) dX2_areNumbersAsTold_113 ⟨Nat.le_of_ble_eq_true rfl, Nat.le_of_ble_eq_true rfl⟩) hS (fun _ h => h) (fun r_24 H locs hp_25 hG hS o_26 => ?_)
      have hp_25 : (r_24 = 1 ∧ 0 ≤ a2.toInt ∧ a2.toInt ≤ (1000 : Int32).toInt) ∨ (r_24 = 0 ∧ (a2.toInt < 0 ∨ (1000 : Int32).toInt < a2.toInt)) := hp_25
      rcases hp_25 with ⟨rfl, p_28, p_29⟩ | ⟨rfl, p_30⟩
      · skip
        refine lv_if_eq (tgt := 140) hx hb dX2_areNumbersAsTold_116 (by decide) (fun q => absurd q (by decide)) (fun _ => ?_)
        refine lv_pc (pc2 := 119) rfl ?_
        refine lv_iload_n hx hb dX2_areNumbersAsTold_119 rfl (lv_at hl 1 rfl) ?_
        refine lv_iload_n hx hb dX2_areNumbersAsTold_120 rfl (lv_at hl 2 rfl) ?_
        refine ty_calli (W.runS (As := [.int a1, .int a2]) (rest := []) ⟨hx, hb, hml, hown, hts⟩ (a_X2_isUpTo l D t cI cL cC Fa a1 a2   ) (va_cwS 2 hts gu_aX2_areNumbersAsTold_aX2_isUpTo_10 rfl rfl rfl (by decide +kernel) ⟨Nat.le_of_ble_eq_true rfl, Nat.le_of_ble_eq_true rfl⟩) (tP_S hG hE) rfl rfl hl.1 rfl (lv_room (Nat.le_of_ble_eq_true rfl)) dX2_areNumbersAsTold_121 ⟨Nat.le_of_ble_eq_true rfl, Nat.le_of_ble_eq_true rfl⟩) hS (fun _ h => h) (fun r_31 H locs hp_32 hG hS o_33 => ?_)
        have hp_32 : (r_31 = 1 ∧ 0 ≤ a1.toInt ∧ a1.toInt ≤ a2.toInt) ∨ (r_31 = 0 ∧ (a1.toInt < 0 ∨ a2.toInt < a1.toInt)) := hp_32
        rcases hp_32 with ⟨rfl, p_35, p_36⟩ | ⟨rfl, p_37⟩
        · skip
          refine lv_if_eq (tgt := 140) hx hb dX2_areNumbersAsTold_124 (by decide) (fun q => absurd q (by decide)) (fun _ => ?_)
          refine lv_iload_n hx hb dX2_areNumbersAsTold_127 rfl (lv_at hl 3 rfl) ?_
          refine lv_ldc hx hb hown (hts (.constant RX2 9 (1000000)) (List.mem_of_getElem? (i := 4) rfl)) dX2_areNumbersAsTold_128 ?_
          have zi_1000000 : (1000000 : Int32).toInt = 1000000 := by decide
          refine ty_calli (W.runS (As := [.int a3, .int 1000000]) (rest := []) ⟨hx, hb, hml, hown, hts⟩ (a_X2_isUpTo l D t cI cL cC Fa a3 1000000   ) (va_cwS 2 hts gu_aX2_areNumbersAsTold_aX2_isUpTo_10 rfl rfl rfl (by decide +kernel) ⟨Nat.le_of_ble_eq_true rfl, Nat.le_of_ble_eq_true rfl⟩) (tP_S hG hE) rfl rfl hl.1 rfl (lv_room (Nat.le_of_ble_eq_true rfl)) dX2_areNumbersAsTold_130 ⟨Nat.le_of_ble_eq_true rfl, Nat.le_of_ble_eq_true rfl⟩) hS (fun _ h => h) (fun r_38 H locs hp_39 hG hS o_40 => ?_)
          have hp_39 : (r_38 = 1 ∧ 0 ≤ a3.toInt ∧ a3.toInt ≤ (1000000 : Int32).toInt) ∨ (r_38 = 0 ∧ (a3.toInt < 0 ∨ (1000000 : Int32).toInt < a3.toInt)) := hp_39
          rcases hp_39 with ⟨rfl, p_42, p_43⟩ | ⟨rfl, p_44⟩
          · skip
            refine lv_if_eq (tgt := 140) hx hb dX2_areNumbersAsTold_133 (by decide) (fun q => absurd q (by decide)) (fun _ => ?_)
            refine lv_pc (pc2 := 136) rfl ?_
            refine lv_iconst (v := 1) hx hb dX2_areNumbersAsTold_136 (by decide) ?_
            refine lv_goto (tgt := 141) hx hb dX2_areNumbersAsTold_137 (by decide) ?_
            have zi_1 : (1 : Int32).toInt = 1 := by decide
            exact ty_zret hx hb hr hlk rfl hG hS (Or.inl ⟨rfl, (by show well a0.toInt a1 a2 a3; refine ⟨fun q => ?_, fun q => ?_, fun q => ?_, fun q => ?_, fun q => ?_, fun q => ?_⟩ <;> omega)⟩) dX2_areNumbersAsTold_141
          · skip
            refine lv_if_eq (tgt := 140) hx hb dX2_areNumbersAsTold_133 (by decide) (fun _ => ?_) (fun q => absurd (by decide) q)
            refine lv_iconst (v := 0) hx hb dX2_areNumbersAsTold_140 (by decide) ?_
            have zi_0 : (0 : Int32).toInt = 0 := by decide
            exact ty_zret hx hb hr hlk rfl hG hS (Or.inr ⟨rfl, (by show ¬ well a0.toInt a1 a2 a3; intro ⟨h1, h2, h3, h4, h5, h6⟩; omega)⟩) dX2_areNumbersAsTold_141
        · skip
          refine lv_if_eq (tgt := 140) hx hb dX2_areNumbersAsTold_124 (by decide) (fun _ => ?_) (fun q => absurd (by decide) q)
          refine lv_iconst (v := 0) hx hb dX2_areNumbersAsTold_140 (by decide) ?_
          refine lv_pc (pc2 := 141) rfl ?_
          have zi_0 : (0 : Int32).toInt = 0 := by decide
          exact ty_zret hx hb hr hlk rfl hG hS (Or.inr ⟨rfl, (by show ¬ well a0.toInt a1 a2 a3; intro ⟨h1, h2, h3, h4, h5, h6⟩; omega)⟩) dX2_areNumbersAsTold_141
      · skip
        refine lv_if_eq (tgt := 140) hx hb dX2_areNumbersAsTold_116 (by decide) (fun _ => ?_) (fun q => absurd (by decide) q)
        refine lv_iconst (v := 0) hx hb dX2_areNumbersAsTold_140 (by decide) ?_
        have zi_0 : (0 : Int32).toInt = 0 := by decide
        exact ty_zret hx hb hr hlk rfl hG hS (Or.inr ⟨rfl, (by show ¬ well a0.toInt a1 a2 a3; intro ⟨h1, h2, h3, h4, h5, h6⟩; omega)⟩) dX2_areNumbersAsTold_141
  by_cases k_45 : a0.toInt = 109
  · refine lv_tableIn (tgt := 142) hx hb dX2_areNumbersAsTold_1 (by rw [k_45]; decide) (by rw [k_45]; decide) (by rw [k_45]; rfl) (by decide) ?_
    refine lv_iload_n hx hb dX2_areNumbersAsTold_142 rfl (lv_at hl 1 rfl) ?_
    refine lv_sipush (v := 1000) hx hb dX2_areNumbersAsTold_143 (by decide) ?_
    have zi_1000 : (1000 : Int32).toInt = 1000 := by decide
    refine ty_calli (W.runS (As := [.int a1, .int 1000]) (rest := []) ⟨hx, hb, hml, hown, hts⟩ (a_X2_isUpTo l D t cI cL cC Fa a1 1000   ) (va_cwS 2 hts gu_aX2_areNumbersAsTold_aX2_isUpTo_10 rfl rfl rfl (by decide +kernel) ⟨Nat.le_of_ble_eq_true rfl, Nat.le_of_ble_eq_true rfl⟩) (tP_S hG hE) rfl rfl hl.1 rfl (lv_room (Nat.le_of_ble_eq_true rfl)) dX2_areNumbersAsTold_146 ⟨Nat.le_of_ble_eq_true rfl, Nat.le_of_ble_eq_true rfl⟩) hS (fun _ h => h) (fun r_46 H locs hp_47 hG hS o_48 => ?_)
    have hp_47 : (r_46 = 1 ∧ 0 ≤ a1.toInt ∧ a1.toInt ≤ (1000 : Int32).toInt) ∨ (r_46 = 0 ∧ (a1.toInt < 0 ∨ (1000 : Int32).toInt < a1.toInt)) := hp_47
    rcases hp_47 with ⟨rfl, p_50, p_51⟩ | ⟨rfl, p_52⟩
    · skip
      have zi_1 : (1 : Int32).toInt = 1 := by decide
      exact ty_zret hx hb hr hlk rfl hG hS (Or.inl ⟨rfl, (by show well a0.toInt a1 a2 a3; refine ⟨fun q => ?_, fun q => ?_, fun q => ?_, fun q => ?_, fun q => ?_, fun q => ?_⟩ <;> omega)⟩) dX2_areNumbersAsTold_149
    · skip
      refine lv_pc (pc2 := 149) rfl ?_
      have zi_0 : (0 : Int32).toInt = 0 := by decide
      exact ty_zret hx hb hr hlk rfl hG hS (Or.inr ⟨rfl, (by show ¬ well a0.toInt a1 a2 a3; intro ⟨h1, h2, h3, h4, h5, h6⟩; omega)⟩) dX2_areNumbersAsTold_149
  by_cases k_53 : a0.toInt = 110
  · refine lv_tableIn (tgt := 178) hx hb dX2_areNumbersAsTold_1 (by rw [k_53]; decide) (by rw [k_53]; decide) (by rw [k_53]; rfl) (by decide) ?_
    refine lv_iload_n hx hb dX2_areNumbersAsTold_178 rfl (lv_at hl 1 rfl) ?_
    refine lv_bipush (v := 100) hx hb dX2_areNumbersAsTold_179 (by decide) ?_
    have zi_100 : (100 : Int32).toInt = 100 := by decide
    refine ty_calli (W.runS (As := [.int a1, .int 100]) (rest := []) ⟨hx, hb, hml, hown, hts⟩ (a_X2_isUpTo l D t cI cL cC Fa a1 100   ) (va_cwS 2 hts gu_aX2_areNumbersAsTold_aX2_isUpTo_10 rfl rfl rfl (by decide +kernel) ⟨Nat.le_of_ble_eq_true rfl, Nat.le_of_ble_eq_true rfl⟩) (tP_S hG hE) rfl rfl hl.1 rfl (lv_room (Nat.le_of_ble_eq_true rfl)) dX2_areNumbersAsTold_181 ⟨Nat.le_of_ble_eq_true rfl, Nat.le_of_ble_eq_true rfl⟩) hS (fun _ h => h) (fun r_54 H locs hp_55 hG hS o_56 => ?_)
    have hp_55 : (r_54 = 1 ∧ 0 ≤ a1.toInt ∧ a1.toInt ≤ (100 : Int32).toInt) ∨ (r_54 = 0 ∧ (a1.toInt < 0 ∨ (100 : Int32).toInt < a1.toInt)) := hp_55
    rcases hp_55 with ⟨rfl, p_58, p_59⟩ | ⟨rfl, p_60⟩
    · skip
      have zi_1 : (1 : Int32).toInt = 1 := by decide
      exact ty_zret hx hb hr hlk rfl hG hS (Or.inl ⟨rfl, (by show well a0.toInt a1 a2 a3; refine ⟨fun q => ?_, fun q => ?_, fun q => ?_, fun q => ?_, fun q => ?_, fun q => ?_⟩ <;> omega)⟩) dX2_areNumbersAsTold_184
    · skip
      have zi_0 : (0 : Int32).toInt = 0 := by decide
      exact ty_zret hx hb hr hlk rfl hG hS (Or.inr ⟨rfl, (by show ¬ well a0.toInt a1 a2 a3; intro ⟨h1, h2, h3, h4, h5, h6⟩; omega)⟩) dX2_areNumbersAsTold_184
  by_cases k_61 : a0.toInt = 111
  · refine lv_tableIn (tgt := 185) hx hb dX2_areNumbersAsTold_1 (by rw [k_61]; decide) (by rw [k_61]; decide) (by rw [k_61]; rfl) (by decide) ?_
    refine lv_iconst (v := 1) hx hb dX2_areNumbersAsTold_185 (by decide) ?_
    have zi_1 : (1 : Int32).toInt = 1 := by decide
    exact ty_zret hx hb hr hlk rfl hG hS (Or.inl ⟨rfl, (by show well a0.toInt a1 a2 a3; refine ⟨fun q => ?_, fun q => ?_, fun q => ?_, fun q => ?_, fun q => ?_, fun q => ?_⟩ <;> omega)⟩) dX2_areNumbersAsTold_186
  by_cases k_62 : a0.toInt = 112
  · refine lv_tableIn (tgt := 185) hx hb dX2_areNumbersAsTold_1 (by rw [k_62]; decide) (by rw [k_62]; decide) (by rw [k_62]; rfl) (by decide) ?_
    refine lv_pc (pc2 := 185) rfl ?_
    refine lv_iconst (v := 1) hx hb dX2_areNumbersAsTold_185 (by decide) ?_
    have zi_1 : (1 : Int32).toInt = 1 := by decide
    exact ty_zret hx hb hr hlk rfl hG hS (Or.inl ⟨rfl, (by show well a0.toInt a1 a2 a3; refine ⟨fun q => ?_, fun q => ?_, fun q => ?_, fun q => ?_, fun q => ?_, fun q => ?_⟩ <;> omega)⟩) dX2_areNumbersAsTold_186
  by_cases k_63 : a0.toInt = 113
  · refine lv_tableIn (tgt := 185) hx hb dX2_areNumbersAsTold_1 (by rw [k_63]; decide) (by rw [k_63]; decide) (by rw [k_63]; rfl) (by decide) ?_
    refine lv_iconst (v := 1) hx hb dX2_areNumbersAsTold_185 (by decide) ?_
    have zi_1 : (1 : Int32).toInt = 1 := by decide
    exact ty_zret hx hb hr hlk rfl hG hS (Or.inl ⟨rfl, (by show well a0.toInt a1 a2 a3; refine ⟨fun q => ?_, fun q => ?_, fun q => ?_, fun q => ?_, fun q => ?_, fun q => ?_⟩ <;> omega)⟩) dX2_areNumbersAsTold_186
  by_cases k_64 : a0.toInt = 114
  · refine lv_tableIn (tgt := 178) hx hb dX2_areNumbersAsTold_1 (by rw [k_64]; decide) (by rw [k_64]; decide) (by rw [k_64]; rfl) (by decide) ?_
    refine lv_iload_n hx hb dX2_areNumbersAsTold_178 rfl (lv_at hl 1 rfl) ?_
    refine lv_bipush (v := 100) hx hb dX2_areNumbersAsTold_179 (by decide) ?_
    have zi_100 : (100 : Int32).toInt = 100 := by decide
    refine ty_calli (W.runS (As := [.int a1, .int 100]) (rest := []) ⟨hx, hb, hml, hown, hts⟩ (a_X2_isUpTo l D t cI cL cC Fa a1 100   ) (va_cwS 2 hts gu_aX2_areNumbersAsTold_aX2_isUpTo_10 rfl rfl rfl (by decide +kernel) ⟨Nat.le_of_ble_eq_true rfl, Nat.le_of_ble_eq_true rfl⟩) (tP_S hG hE) rfl rfl hl.1 rfl (lv_room (Nat.le_of_ble_eq_true rfl)) dX2_areNumbersAsTold_181 ⟨Nat.le_of_ble_eq_true rfl, Nat.le_of_ble_eq_true rfl⟩) hS (fun _ h => h) (fun r_65 H locs hp_66 hG hS o_67 => ?_)
    have hp_66 : (r_65 = 1 ∧ 0 ≤ a1.toInt ∧ a1.toInt ≤ (100 : Int32).toInt) ∨ (r_65 = 0 ∧ (a1.toInt < 0 ∨ (100 : Int32).toInt < a1.toInt)) := hp_66
    rcases hp_66 with ⟨rfl, p_69, p_70⟩ | ⟨rfl, p_71⟩
    · skip
      have zi_1 : (1 : Int32).toInt = 1 := by decide
      exact ty_zret hx hb hr hlk rfl hG hS (Or.inl ⟨rfl, (by show well a0.toInt a1 a2 a3; refine ⟨fun q => ?_, fun q => ?_, fun q => ?_, fun q => ?_, fun q => ?_, fun q => ?_⟩ <;> omega)⟩) dX2_areNumbersAsTold_184
    · skip
      refine lv_pc (pc2 := 184) rfl ?_
      have zi_0 : (0 : Int32).toInt = 0 := by decide
      exact ty_zret hx hb hr hlk rfl hG hS (Or.inr ⟨rfl, (by show ¬ well a0.toInt a1 a2 a3; intro ⟨h1, h2, h3, h4, h5, h6⟩; omega)⟩) dX2_areNumbersAsTold_184
  by_cases k_72 : a0.toInt = 115
  · refine lv_tableIn (tgt := 80) hx hb dX2_areNumbersAsTold_1 (by rw [k_72]; decide) (by rw [k_72]; decide) (by rw [k_72]; rfl) (by decide) ?_
    refine lv_iload_n hx hb dX2_areNumbersAsTold_80 rfl (lv_at hl 1 rfl) ?_
    refine lv_ldc hx hb hown (hts (.constant RX2 9 (1000000)) (List.mem_of_getElem? (i := 4) rfl)) dX2_areNumbersAsTold_81 ?_
    have zi_1000000 : (1000000 : Int32).toInt = 1000000 := by decide
    refine ty_calli (W.runS (As := [.int a1, .int 1000000]) (rest := []) ⟨hx, hb, hml, hown, hts⟩ (a_X2_isUpTo l D t cI cL cC Fa a1 1000000   ) (va_cwS 2 hts gu_aX2_areNumbersAsTold_aX2_isUpTo_10 rfl rfl rfl (by decide +kernel) ⟨Nat.le_of_ble_eq_true rfl, Nat.le_of_ble_eq_true rfl⟩) (tP_S hG hE) rfl rfl hl.1 rfl (lv_room (Nat.le_of_ble_eq_true rfl)) dX2_areNumbersAsTold_83 ⟨Nat.le_of_ble_eq_true rfl, Nat.le_of_ble_eq_true rfl⟩) hS (fun _ h => h) (fun r_73 H locs hp_74 hG hS o_75 => ?_)
    have hp_74 : (r_73 = 1 ∧ 0 ≤ a1.toInt ∧ a1.toInt ≤ (1000000 : Int32).toInt) ∨ (r_73 = 0 ∧ (a1.toInt < 0 ∨ (1000000 : Int32).toInt < a1.toInt)) := hp_74
    rcases hp_74 with ⟨rfl, p_77, p_78⟩ | ⟨rfl, p_79⟩
    · skip
      refine lv_if_eq (tgt := 102) hx hb dX2_areNumbersAsTold_86 (by decide) (fun q => absurd q (by decide)) (fun _ => ?_)
      refine lv_iload_n hx hb dX2_areNumbersAsTold_89 rfl (lv_at hl 2 rfl) ?_
      refine lv_ldc hx hb hown (hts (.constant RX2 9 (1000000)) (List.mem_of_getElem? (i := 4) rfl)) dX2_areNumbersAsTold_90 ?_
      refine ty_calli (W.runS (As := [.int a2, .int 1000000]) (rest := []) ⟨hx, hb, hml, hown, hts⟩ (a_X2_isUpTo l D t cI cL cC Fa a2 1000000   ) (va_cwS 2 hts gu_aX2_areNumbersAsTold_aX2_isUpTo_10 rfl rfl rfl (by decide +kernel) ⟨Nat.le_of_ble_eq_true rfl, Nat.le_of_ble_eq_true rfl⟩) (tP_S hG hE) rfl rfl hl.1 rfl (lv_room (Nat.le_of_ble_eq_true rfl)) dX2_areNumbersAsTold_92 ⟨Nat.le_of_ble_eq_true rfl, Nat.le_of_ble_eq_true rfl⟩) hS (fun _ h => h) (fun r_80 H locs hp_81 hG hS o_82 => ?_)
      have hp_81 : (r_80 = 1 ∧ 0 ≤ a2.toInt ∧ a2.toInt ≤ (1000000 : Int32).toInt) ∨ (r_80 = 0 ∧ (a2.toInt < 0 ∨ (1000000 : Int32).toInt < a2.toInt)) := hp_81
      rcases hp_81 with ⟨rfl, p_84, p_85⟩ | ⟨rfl, p_86⟩
      · skip
        refine lv_pc (pc2 := 95) rfl ?_
        refine lv_if_eq (tgt := 102) hx hb dX2_areNumbersAsTold_95 (by decide) (fun q => absurd q (by decide)) (fun _ => ?_)
        refine lv_iconst (v := 1) hx hb dX2_areNumbersAsTold_98 (by decide) ?_
        refine lv_goto (tgt := 103) hx hb dX2_areNumbersAsTold_99 (by decide) ?_
        have zi_1 : (1 : Int32).toInt = 1 := by decide
        exact ty_zret hx hb hr hlk rfl hG hS (Or.inl ⟨rfl, (by show well a0.toInt a1 a2 a3; refine ⟨fun q => ?_, fun q => ?_, fun q => ?_, fun q => ?_, fun q => ?_, fun q => ?_⟩ <;> omega)⟩) dX2_areNumbersAsTold_103
      · skip
        refine lv_if_eq (tgt := 102) hx hb dX2_areNumbersAsTold_95 (by decide) (fun _ => ?_) (fun q => absurd (by decide) q)
        refine lv_iconst (v := 0) hx hb dX2_areNumbersAsTold_102 (by decide) ?_
        have zi_0 : (0 : Int32).toInt = 0 := by decide
        exact ty_zret hx hb hr hlk rfl hG hS (Or.inr ⟨rfl, (by show ¬ well a0.toInt a1 a2 a3; intro ⟨h1, h2, h3, h4, h5, h6⟩; omega)⟩) dX2_areNumbersAsTold_103
    · skip
      refine lv_if_eq (tgt := 102) hx hb dX2_areNumbersAsTold_86 (by decide) (fun _ => ?_) (fun q => absurd (by decide) q)
      refine lv_pc (pc2 := 102) rfl ?_
      refine lv_iconst (v := 0) hx hb dX2_areNumbersAsTold_102 (by decide) ?_
      have zi_0 : (0 : Int32).toInt = 0 := by decide
      exact ty_zret hx hb hr hlk rfl hG hS (Or.inr ⟨rfl, (by show ¬ well a0.toInt a1 a2 a3; intro ⟨h1, h2, h3, h4, h5, h6⟩; omega)⟩) dX2_areNumbersAsTold_103
  by_cases k_87 : a0.toInt = 116
  · refine lv_tableIn (tgt := 158) hx hb dX2_areNumbersAsTold_1 (by rw [k_87]; decide) (by rw [k_87]; decide) (by rw [k_87]; rfl) (by decide) ?_
    refine lv_iload_n hx hb dX2_areNumbersAsTold_158 rfl (lv_at hl 1 rfl) ?_
    refine lv_iconst (v := 1) hx hb dX2_areNumbersAsTold_159 (by decide) ?_
    refine lv_icmp_lt (tgt := 176) hx hb dX2_areNumbersAsTold_160 (by decide) (fun c_88 => ?_) (fun c_88 => ?_)
    · skip
      have c_88 : a1.toInt < 1 := q_lt c_88
      refine lv_iconst (v := 0) hx hb dX2_areNumbersAsTold_176 (by decide) ?_
      have zi_0 : (0 : Int32).toInt = 0 := by decide
      exact ty_zret hx hb hr hlk rfl hG hS (Or.inr ⟨rfl, (by show ¬ well a0.toInt a1 a2 a3; intro ⟨h1, h2, h3, h4, h5, h6⟩; omega)⟩) dX2_areNumbersAsTold_177
    · skip
      have c_88 : 1 ≤ a1.toInt := q_nlt c_88
      refine lv_iload_n hx hb dX2_areNumbersAsTold_163 rfl (lv_at hl 1 rfl) ?_
      refine lv_pc (pc2 := 164) rfl ?_
      refine lv_bipush (v := 12) hx hb dX2_areNumbersAsTold_164 (by decide) ?_
      have zi_12 : (12 : Int32).toInt = 12 := by decide
      refine ty_calli (W.runS (As := [.int a1, .int 12]) (rest := []) ⟨hx, hb, hml, hown, hts⟩ (a_X2_isUpTo l D t cI cL cC Fa a1 12   ) (va_cwS 2 hts gu_aX2_areNumbersAsTold_aX2_isUpTo_10 rfl rfl rfl (by decide +kernel) ⟨Nat.le_of_ble_eq_true rfl, Nat.le_of_ble_eq_true rfl⟩) (tP_S hG hE) rfl rfl hl.1 rfl (lv_room (Nat.le_of_ble_eq_true rfl)) dX2_areNumbersAsTold_166 ⟨Nat.le_of_ble_eq_true rfl, Nat.le_of_ble_eq_true rfl⟩) hS (fun _ h => h) (fun r_89 H locs hp_90 hG hS o_91 => ?_)
      have hp_90 : (r_89 = 1 ∧ 0 ≤ a1.toInt ∧ a1.toInt ≤ (12 : Int32).toInt) ∨ (r_89 = 0 ∧ (a1.toInt < 0 ∨ (12 : Int32).toInt < a1.toInt)) := hp_90
      rcases hp_90 with ⟨rfl, p_93, p_94⟩ | ⟨rfl, p_95⟩
      · skip
        refine lv_if_eq (tgt := 176) hx hb dX2_areNumbersAsTold_169 (by decide) (fun q => absurd q (by decide)) (fun _ => ?_)
        refine lv_iconst (v := 1) hx hb dX2_areNumbersAsTold_172 (by decide) ?_
        refine lv_goto (tgt := 177) hx hb dX2_areNumbersAsTold_173 (by decide) ?_
        have zi_1 : (1 : Int32).toInt = 1 := by decide
        exact ty_zret hx hb hr hlk rfl hG hS (Or.inl ⟨rfl, (by show well a0.toInt a1 a2 a3; refine ⟨fun q => ?_, fun q => ?_, fun q => ?_, fun q => ?_, fun q => ?_, fun q => ?_⟩ <;> omega)⟩) dX2_areNumbersAsTold_177
      · skip
        refine lv_if_eq (tgt := 176) hx hb dX2_areNumbersAsTold_169 (by decide) (fun _ => ?_) (fun q => absurd (by decide) q)
        refine lv_iconst (v := 0) hx hb dX2_areNumbersAsTold_176 (by decide) ?_
        refine lv_pc (pc2 := 177) rfl ?_
        have zi_0 : (0 : Int32).toInt = 0 := by decide
        exact ty_zret hx hb hr hlk rfl hG hS (Or.inr ⟨rfl, (by show ¬ well a0.toInt a1 a2 a3; intro ⟨h1, h2, h3, h4, h5, h6⟩; omega)⟩) dX2_areNumbersAsTold_177
  refine lv_tableOut (tgt := 185) hx hb dX2_areNumbersAsTold_1 (by omega) (by decide) ?_
  refine lv_iconst (v := 1) hx hb dX2_areNumbersAsTold_185 (by decide) ?_
  have zi_1 : (1 : Int32).toInt = 1 := by decide
  exact ty_zret hx hb hr hlk rfl hG hS (Or.inl ⟨rfl, (by show well a0.toInt a1 a2 a3; refine ⟨fun q => ?_, fun q => ?_, fun q => ?_, fun q => ?_, fun q => ?_, fun q => ?_⟩ <;> omega)⟩) dX2_areNumbersAsTold_186

def uvX7_nextByte : List Cond := .code yX7_nextByte cX7_nextByte 1 (some .int) :: ([.fieldLink RX7 22 "RiverModel$Text" "at" "I", .fieldLink RX7 18 "RiverModel$Text" "length" "I", .fieldLink RX7 9 "RiverModel$Text" "bytes" "[I"] ++ wsX70)
set_option maxHeartbeats 4000000 in
set_option maxRecDepth 100000 in
theorem v_X7_nextByte (l : Launch) (D : va_G) (t : Nat → Nat) (cI cL cC : ClassId) (gC : Int32) (gP : Int32) (gT : Nat → Int32) (gR : Nat → Int32) (gm : Int32) (gs : Int32) (gg : Int32) (gL : Nat → Int32) (gQ : Nat → Int32) (gZ : Nat → Int32) (gE : Int32) (gV : Nat → Int32) (gU : Nat → Int32) (gN : Nat → Int32) (a0 : Nat) (P : Int) (uq : ∀ b c : Nat, t b = t c → t b ≠ 0 → b = c) (hC0 : 0 ≤ gC.toInt) (hC4 : gC.toInt ≤ 400) (hT : gBd 400 0 255 gT) (hP : gP.toInt = P) (hP0 : 0 ≤ P) (hP4 : P ≤ 400) (k_a0 : t a0 = 2) : tMx (Z := (Int32)) l yX7_nextByte uvX7_nextByte 0 0 D (rF cI cL cC gC gP gT gR gm gs gg gL gQ gZ gE gV gU gN) (fun z => (rF cI cL cC gC z gT gR gm gs gg gL gQ gZ gE gV gU gN)) t cI cL cC [.ref a0] vT (xI (fun r (z : (Int32)) => r.toInt = byT gT gC P ∧ ((z.toInt = P + 1 ∧ P < gC.toInt) ∨ (z.toInt = P ∧ gC.toInt ≤ P ∧ r.toInt = -1)) ∧ -1 ≤ r.toInt ∧ r.toInt ≤ 255 ∧ 0 ≤ z.toInt ∧ z.toInt ≤ 400)) := by
  refine tMx.ofW (cc := cX7_nextByte) (maxL := 1) (ret := (some .int)) (by decide) rfl (Nat.le_of_ble_eq_true rfl) ?_
  intro p e s m below meth c hx hb hr hml hown hts hlk H locs hG hK hE hS ls hl
  have hl : lv_has ls 1 [(0, .ref a0)] := hl
  have in7 : ∀ w ∈ wsX70, w ∈ uvX7_nextByte := fun w h => List.mem_cons_of_mem _ (List.mem_append_right _ h)
  refine lv_aload_n hx hb dX7_nextByte_0 rfl (lv_at hl 0 rfl) ?_
  obtain ⟨r_1, r_3, at_5, h_2, h_4⟩ := rF_o2 hG k_a0
  refine va_get (D := D) (ci := 6) (v := .int gP) (C := RX7) (T := TX7) (N := 4) hx hb hts in7 hown hK (va_one at_5) 0 rfl rfl 3 (by decide) (hts (.fieldLink RX7 22 "RiverModel$Text" "at" "I") (List.mem_of_getElem? (i := 1) rfl)) (fun _ h9 => h9) rfl dX7_nextByte_1 ?_
  refine lv_aload_n hx hb dX7_nextByte_4 rfl (lv_at hl 0 rfl) ?_
  refine va_get (D := D) (ci := 6) (v := .int gC) (C := RX7) (T := TX7) (N := 4) hx hb hts in7 hown hK (va_one at_5) 0 rfl rfl 2 (by decide) (hts (.fieldLink RX7 18 "RiverModel$Text" "length" "I") (List.mem_of_getElem? (i := 2) rfl)) (fun _ h9 => h9) rfl dX7_nextByte_5 ?_
  refine lv_icmp_lt (tgt := 13) hx hb dX7_nextByte_8 (by decide) (fun c_6 => ?_) (fun c_6 => ?_)
  · skip
    have c_6 : gP.toInt < gC.toInt := q_lt c_6
    refine lv_aload_n hx hb dX7_nextByte_13 rfl (lv_at hl 0 rfl) ?_
    refine lv_dup hx hb dX7_nextByte_14 rfl ?_
    refine lv_pc (pc2 := 15) rfl ?_
    refine va_get (D := D) (ci := 6) (v := .int gP) (C := RX7) (T := TX7) (N := 4) hx hb hts in7 hown hK (va_one at_5) 0 rfl rfl 3 (by decide) (hts (.fieldLink RX7 22 "RiverModel$Text" "at" "I") (List.mem_of_getElem? (i := 1) rfl)) (fun _ h9 => h9) rfl dX7_nextByte_15 ?_
    refine lv_iconst (v := 1) hx hb dX7_nextByte_18 (by decide) ?_
    refine lv_iadd hx hb dX7_nextByte_19 ?_
    refine lv_topi (fun x_7 e_8 => ?_)
    have i_x_7 : x_7.toInt = gP.toInt + 1 := by rw [e_8]; exact (q_add (by rw [show (1 : Int32).toInt = 1 by decide]; omega) (by rw [show (1 : Int32).toInt = 1 by decide]; omega)).trans (by rw [show (1 : Int32).toInt = 1 by decide])
    refine ty_put (D := D) (ci := 6) (v := .int x_7) (ty := .int) (C := RX7) (T := TX7) (N := 4) (F2 := (rF cI cL cC gC x_7 gT gR gm gs gg gL gQ gZ gE gV gU gN)) hx hb hts in7 tyX7 tyX7_ok nmX7 hown hK hG hS at_5 (by rw [k_a0]; rfl) rfl 3 (by decide) (hts (.fieldLink RX7 22 "RiverModel$Text" "at" "I") (List.mem_of_getElem? (i := 1) rfl)) (fun _ h9 => h9) rfl (by decide +kernel) rfl rfl (Nat.le_of_ble_eq_true rfl) (by rw [k_a0]; exact ⟨r_1, r_3, rfl, h_2, h_4⟩) (fun hG b hb h0 => by obtain ⟨e, g1, g2⟩ := hG b h0; exact ⟨e, g1, rF_gP (fun h => hb (uq b a0 (h.trans k_a0.symm) h0)) g2⟩) dX7_nextByte_20 (fun H locs hG hS at_9 o_10 => ?_)
    have at_9 : va_at D vwCl (a0, .inr (6, [.ref r_1, .ref r_3, .int gC, .int x_7])) H := at_9
    refine lv_aload_n hx hb dX7_nextByte_23 rfl (lv_at hl 0 rfl) ?_
    refine va_get (D := D) (ci := 6) (v := .ref r_1) (C := RX7) (T := TX7) (N := 4) hx hb hts in7 hown hK (va_one at_9) 0 rfl rfl 0 (by decide) (hts (.fieldLink RX7 9 "RiverModel$Text" "bytes" "[I") (List.mem_of_getElem? (i := 3) rfl)) (fun _ h9 => h9) rfl dX7_nextByte_24 ?_
    refine lv_aload_n hx hb dX7_nextByte_27 rfl (lv_at hl 0 rfl) ?_
    refine va_get (D := D) (ci := 6) (v := .int x_7) (C := RX7) (T := TX7) (N := 4) hx hb hts in7 hown hK (va_one at_9) 0 rfl rfl 3 (by decide) (hts (.fieldLink RX7 22 "RiverModel$Text" "at" "I") (List.mem_of_getElem? (i := 1) rfl)) (fun _ h9 => h9) rfl dX7_nextByte_28 ?_
    refine lv_pc (pc2 := 31) rfl ?_
    refine lv_iconst (v := 1) hx hb dX7_nextByte_31 (by decide) ?_
    refine lv_isub hx hb dX7_nextByte_32 ?_
    refine lv_topi (fun x_11 e_12 => ?_)
    have i_x_11 : x_11.toInt = x_7.toInt - 1 := by rw [e_12]; exact (q_sub (by rw [show (1 : Int32).toInt = 1 by decide]; omega) (by rw [show (1 : Int32).toInt = 1 by decide]; omega)).trans (by rw [show (1 : Int32).toInt = 1 by decide])
    have at_13 := rF_o10 hG h_2
    have b_14 : vp_in x_11 400 := (q_in (by omega) (by omega))
    refine va_iald hx hb hK (va_one at_13) 0 0 rfl rfl b_14 dX7_nextByte_33 ?_
    refine lv_topi (fun x_15 e_16 => ?_)
    have w_x_15 : x_15 = gT (P).toNat := by rw [e_16]; exact congrArg (fun q : Int => gT q.toNat) (show x_11.toInt = P by omega)
    have i_x_15 : x_15.toInt = (gT (P).toNat).toInt := by rw [w_x_15]
    exact tx_iret (z := (x_7)) hx hb hr hlk hG hS ⟨(by show x_15.toInt = byT gT gC P; rw [byT_in (by omega)]; omega), (by show (x_7.toInt = P + 1 ∧ P < gC.toInt) ∨ (x_7.toInt = P ∧ gC.toInt ≤ P ∧ x_15.toInt = -1); omega), (by show -1 ≤ x_15.toInt; have := hT P.toNat (by omega); omega), (by show x_15.toInt ≤ 255; have := hT P.toNat (by omega); omega), (by show 0 ≤ x_7.toInt; omega), (by show x_7.toInt ≤ 400; omega)⟩ dX7_nextByte_34
  · skip
    have c_6 : gC.toInt ≤ gP.toInt := q_nlt c_6
    refine lv_iconst (v := (-1)) hx hb dX7_nextByte_11 (by decide) ?_
    have zi_m1 : ((-1) : Int32).toInt = (-1) := by decide
    exact tx_iret (z := (gP)) hx hb hr hlk hG hS ⟨(by show ((-1) : Int32).toInt = byT gT gC P; rw [byT_out (by omega)]; omega), (by show (gP.toInt = P + 1 ∧ P < gC.toInt) ∨ (gP.toInt = P ∧ gC.toInt ≤ P ∧ ((-1) : Int32).toInt = -1); omega), (by show -1 ≤ ((-1) : Int32).toInt; omega), (by show ((-1) : Int32).toInt ≤ 255; omega), (by show 0 ≤ gP.toInt; omega), (by show gP.toInt ≤ 400; omega)⟩ dX7_nextByte_12
