theorem dX1_putSeen_0 : decode cX1_putSeen 0 = .ok (.iload_n 1, 1) := by decide +kernel
theorem dX1_putSeen_1 : decode cX1_putSeen 1 = .ok (.invokestatic 31, 3) := by decide +kernel
theorem dX1_putSeen_4 : decode cX1_putSeen 4 = .ok (.ifCond .ne 13, 3) := by decide +kernel
theorem dX1_putSeen_7 : decode cX1_putSeen 7 = .ok (.iload_n 2, 1) := by decide +kernel
theorem dX1_putSeen_8 : decode cX1_putSeen 8 = .ok (.iconst 0, 1) := by decide +kernel
theorem dX1_putSeen_9 : decode cX1_putSeen 9 = .ok (.bipush 95, 2) := by decide +kernel
theorem dX1_putSeen_11 : decode cX1_putSeen 11 = .ok (.invokestatic 53, 3) := by decide +kernel
theorem dX1_putSeen_14 : decode cX1_putSeen 14 = .ok (.ifCond .eq 5, 3) := by decide +kernel
theorem dX1_putSeen_17 : decode cX1_putSeen 17 = .ok (.iconst (-1), 1) := by decide +kernel
theorem dX1_putSeen_18 : decode cX1_putSeen 18 = .ok (.ireturn, 1) := by decide +kernel
theorem dX1_putSeen_19 : decode cX1_putSeen 19 = .ok (.aload_n 0, 1) := by decide +kernel
theorem dX1_putSeen_20 : decode cX1_putSeen 20 = .ok (.getfield 18, 3) := by decide +kernel
theorem dX1_putSeen_23 : decode cX1_putSeen 23 = .ok (.iload_n 1, 1) := by decide +kernel
theorem dX1_putSeen_24 : decode cX1_putSeen 24 = .ok (.bipush 96, 2) := by decide +kernel
theorem dX1_putSeen_26 : decode cX1_putSeen 26 = .ok (.imul, 1) := by decide +kernel
theorem dX1_putSeen_27 : decode cX1_putSeen 27 = .ok (.iload_n 2, 1) := by decide +kernel
theorem dX1_putSeen_28 : decode cX1_putSeen 28 = .ok (.iadd, 1) := by decide +kernel
theorem dX1_putSeen_29 : decode cX1_putSeen 29 = .ok (.iaload, 1) := by decide +kernel
theorem dX1_putSeen_30 : decode cX1_putSeen 30 = .ok (.istore 4, 2) := by decide +kernel
theorem dX1_putSeen_32 : decode cX1_putSeen 32 = .ok (.aload_n 0, 1) := by decide +kernel
theorem dX1_putSeen_33 : decode cX1_putSeen 33 = .ok (.getfield 18, 3) := by decide +kernel
theorem dX1_putSeen_36 : decode cX1_putSeen 36 = .ok (.iload_n 1, 1) := by decide +kernel
theorem dX1_putSeen_37 : decode cX1_putSeen 37 = .ok (.bipush 96, 2) := by decide +kernel
theorem dX1_putSeen_39 : decode cX1_putSeen 39 = .ok (.imul, 1) := by decide +kernel
theorem dX1_putSeen_40 : decode cX1_putSeen 40 = .ok (.iload_n 2, 1) := by decide +kernel
theorem dX1_putSeen_41 : decode cX1_putSeen 41 = .ok (.iadd, 1) := by decide +kernel
theorem dX1_putSeen_42 : decode cX1_putSeen 42 = .ok (.iload_n 3, 1) := by decide +kernel
theorem dX1_putSeen_43 : decode cX1_putSeen 43 = .ok (.iastore, 1) := by decide +kernel
theorem dX1_putSeen_44 : decode cX1_putSeen 44 = .ok (.iload 4, 2) := by decide +kernel
theorem dX1_putSeen_46 : decode cX1_putSeen 46 = .ok (.ireturn, 1) := by decide +kernel
theorem dX3_isSet_0 : decode cX3_isSet 0 = .ok (.iload_n 1, 1) := by decide +kernel
theorem dX3_isSet_1 : decode cX3_isSet 1 = .ok (.ifCond .lt 21, 3) := by decide +kernel
theorem dX3_isSet_4 : decode cX3_isSet 4 = .ok (.iload_n 1, 1) := by decide +kernel
theorem dX3_isSet_5 : decode cX3_isSet 5 = .ok (.iconst 2, 1) := by decide +kernel
theorem dX3_isSet_6 : decode cX3_isSet 6 = .ok (.if_icmp .ge 16, 3) := by decide +kernel
theorem dX3_isSet_9 : decode cX3_isSet 9 = .ok (.aload_n 0, 1) := by decide +kernel
theorem dX3_isSet_10 : decode cX3_isSet 10 = .ok (.getfield 24, 3) := by decide +kernel
theorem dX3_isSet_13 : decode cX3_isSet 13 = .ok (.iload_n 1, 1) := by decide +kernel
theorem dX3_isSet_14 : decode cX3_isSet 14 = .ok (.iaload, 1) := by decide +kernel
theorem dX3_isSet_15 : decode cX3_isSet 15 = .ok (.ifCond .le 7, 3) := by decide +kernel
theorem dX3_isSet_18 : decode cX3_isSet 18 = .ok (.iconst 1, 1) := by decide +kernel
theorem dX3_isSet_19 : decode cX3_isSet 19 = .ok (.goto 4, 3) := by decide +kernel
theorem dX3_isSet_22 : decode cX3_isSet 22 = .ok (.iconst 0, 1) := by decide +kernel
theorem dX3_isSet_23 : decode cX3_isSet 23 = .ok (.ireturn, 1) := by decide +kernel
theorem dX3_pointsOf_0 : decode cX3_pointsOf 0 = .ok (.aload_n 0, 1) := by decide +kernel
theorem dX3_pointsOf_1 : decode cX3_pointsOf 1 = .ok (.iload_n 1, 1) := by decide +kernel
theorem dX3_pointsOf_2 : decode cX3_pointsOf 2 = .ok (.invokevirtual 37, 3) := by decide +kernel
theorem dX3_pointsOf_5 : decode cX3_pointsOf 5 = .ok (.ifCond .eq 12, 3) := by decide +kernel
theorem dX3_pointsOf_8 : decode cX3_pointsOf 8 = .ok (.aload_n 0, 1) := by decide +kernel
theorem dX3_pointsOf_9 : decode cX3_pointsOf 9 = .ok (.getfield 24, 3) := by decide +kernel
theorem dX3_pointsOf_12 : decode cX3_pointsOf 12 = .ok (.iload_n 1, 1) := by decide +kernel
theorem dX3_pointsOf_13 : decode cX3_pointsOf 13 = .ok (.iaload, 1) := by decide +kernel
theorem dX3_pointsOf_14 : decode cX3_pointsOf 14 = .ok (.goto 4, 3) := by decide +kernel
theorem dX3_pointsOf_17 : decode cX3_pointsOf 17 = .ok (.iconst 1, 1) := by decide +kernel
theorem dX3_pointsOf_18 : decode cX3_pointsOf 18 = .ok (.ireturn, 1) := by decide +kernel
theorem dX3_numberAt_0 : decode cX3_numberAt 0 = .ok (.iload_n 1, 1) := by decide +kernel
theorem dX3_numberAt_1 : decode cX3_numberAt 1 = .ok (.invokestatic 33, 3) := by decide +kernel
theorem dX3_numberAt_4 : decode cX3_numberAt 4 = .ok (.ifCond .eq 6, 3) := by decide +kernel
theorem dX3_numberAt_7 : decode cX3_numberAt 7 = .ok (.bipush (-4), 2) := by decide +kernel
theorem dX3_numberAt_9 : decode cX3_numberAt 9 = .ok (.ireturn, 1) := by decide +kernel
theorem dX3_numberAt_10 : decode cX3_numberAt 10 = .ok (.iconst 1, 1) := by decide +kernel
theorem dX3_numberAt_11 : decode cX3_numberAt 11 = .ok (.aload_n 0, 1) := by decide +kernel
theorem dX3_numberAt_12 : decode cX3_numberAt 12 = .ok (.iconst 1, 1) := by decide +kernel
theorem dX3_numberAt_13 : decode cX3_numberAt 13 = .ok (.invokevirtual 40, 3) := by decide +kernel
theorem dX3_numberAt_16 : decode cX3_numberAt 16 = .ok (.invokestatic 44, 3) := by decide +kernel
theorem dX3_numberAt_19 : decode cX3_numberAt 19 = .ok (.istore_n 3, 1) := by decide +kernel
theorem dX3_numberAt_20 : decode cX3_numberAt 20 = .ok (.aload_n 0, 1) := by decide +kernel
theorem dX3_numberAt_21 : decode cX3_numberAt 21 = .ok (.getfield 18, 3) := by decide +kernel
theorem dX3_numberAt_24 : decode cX3_numberAt 24 = .ok (.iload_n 1, 1) := by decide +kernel
theorem dX3_numberAt_25 : decode cX3_numberAt 25 = .ok (.iaload, 1) := by decide +kernel
theorem dX3_numberAt_26 : decode cX3_numberAt 26 = .ok (.aload_n 0, 1) := by decide +kernel
theorem dX3_numberAt_27 : decode cX3_numberAt 27 = .ok (.getfield 21, 3) := by decide +kernel
theorem dX3_numberAt_30 : decode cX3_numberAt 30 = .ok (.iload_n 1, 1) := by decide +kernel
theorem dX3_numberAt_31 : decode cX3_numberAt 31 = .ok (.iaload, 1) := by decide +kernel
theorem dX3_numberAt_32 : decode cX3_numberAt 32 = .ok (.iload_n 1, 1) := by decide +kernel
theorem dX3_numberAt_33 : decode cX3_numberAt 33 = .ok (.ifCond .ne 9, 3) := by decide +kernel
theorem dX3_numberAt_36 : decode cX3_numberAt 36 = .ok (.iload_n 2, 1) := by decide +kernel
theorem dX3_numberAt_37 : decode cX3_numberAt 37 = .ok (.iload_n 3, 1) := by decide +kernel
theorem dX3_numberAt_38 : decode cX3_numberAt 38 = .ok (.idiv, 1) := by decide +kernel
theorem dX3_numberAt_39 : decode cX3_numberAt 39 = .ok (.goto 6, 3) := by decide +kernel
theorem dX3_numberAt_42 : decode cX3_numberAt 42 = .ok (.iload_n 2, 1) := by decide +kernel
theorem dX3_numberAt_43 : decode cX3_numberAt 43 = .ok (.iload_n 3, 1) := by decide +kernel
theorem dX3_numberAt_44 : decode cX3_numberAt 44 = .ok (.irem, 1) := by decide +kernel
theorem dX3_numberAt_45 : decode cX3_numberAt 45 = .ok (.imul, 1) := by decide +kernel
theorem dX3_numberAt_46 : decode cX3_numberAt 46 = .ok (.iadd, 1) := by decide +kernel
theorem dX3_numberAt_47 : decode cX3_numberAt 47 = .ok (.ireturn, 1) := by decide +kernel
theorem dX3_lay_0 : decode cX3_lay 0 = .ok (.iconst 0, 1) := by decide +kernel
theorem dX3_lay_1 : decode cX3_lay 1 = .ok (.istore_n 3, 1) := by decide +kernel
theorem dX3_lay_2 : decode cX3_lay 2 = .ok (.iload_n 3, 1) := by decide +kernel
theorem dX3_lay_3 : decode cX3_lay 3 = .ok (.iconst 2, 1) := by decide +kernel
theorem dX3_lay_4 : decode cX3_lay 4 = .ok (.if_icmp .ge 62, 3) := by decide +kernel
theorem dX3_lay_7 : decode cX3_lay 7 = .ok (.aload_n 0, 1) := by decide +kernel
theorem dX3_lay_8 : decode cX3_lay 8 = .ok (.iload_n 3, 1) := by decide +kernel
theorem dX3_lay_9 : decode cX3_lay 9 = .ok (.invokevirtual 37, 3) := by decide +kernel
theorem dX3_lay_12 : decode cX3_lay 12 = .ok (.ifCond .eq 48, 3) := by decide +kernel
theorem dX3_lay_15 : decode cX3_lay 15 = .ok (.aload_n 2, 1) := by decide +kernel
theorem dX3_lay_16 : decode cX3_lay 16 = .ok (.aload_n 0, 1) := by decide +kernel
theorem dX3_lay_17 : decode cX3_lay 17 = .ok (.getfield 9, 3) := by decide +kernel
theorem dX3_lay_20 : decode cX3_lay 20 = .ok (.iload_n 3, 1) := by decide +kernel
theorem dX3_lay_21 : decode cX3_lay 21 = .ok (.iaload, 1) := by decide +kernel
theorem dX3_lay_22 : decode cX3_lay 22 = .ok (.aload_n 0, 1) := by decide +kernel
theorem dX3_lay_23 : decode cX3_lay 23 = .ok (.getfield 15, 3) := by decide +kernel
theorem dX3_lay_26 : decode cX3_lay 26 = .ok (.iload_n 3, 1) := by decide +kernel
theorem dX3_lay_27 : decode cX3_lay 27 = .ok (.iaload, 1) := by decide +kernel
theorem dX3_lay_28 : decode cX3_lay 28 = .ok (.invokevirtual 50, 3) := by decide +kernel
theorem dX3_lay_31 : decode cX3_lay 31 = .ok (.ifCond .ne 5, 3) := by decide +kernel
theorem dX3_lay_34 : decode cX3_lay 34 = .ok (.iconst 0, 1) := by decide +kernel
theorem dX3_lay_35 : decode cX3_lay 35 = .ok (.ireturn, 1) := by decide +kernel
theorem dX3_lay_36 : decode cX3_lay 36 = .ok (.aload_n 2, 1) := by decide +kernel
theorem dX3_lay_37 : decode cX3_lay 37 = .ok (.aload_n 0, 1) := by decide +kernel
theorem dX3_lay_38 : decode cX3_lay 38 = .ok (.getfield 9, 3) := by decide +kernel
theorem dX3_lay_41 : decode cX3_lay 41 = .ok (.iload_n 3, 1) := by decide +kernel
theorem dX3_lay_42 : decode cX3_lay 42 = .ok (.iaload, 1) := by decide +kernel
theorem dX3_lay_43 : decode cX3_lay 43 = .ok (.iconst 3, 1) := by decide +kernel
theorem dX3_lay_44 : decode cX3_lay 44 = .ok (.aload_n 0, 1) := by decide +kernel
theorem dX3_lay_45 : decode cX3_lay 45 = .ok (.getfield 15, 3) := by decide +kernel
theorem dX3_lay_48 : decode cX3_lay 48 = .ok (.iload_n 3, 1) := by decide +kernel
theorem dX3_lay_49 : decode cX3_lay 49 = .ok (.iaload, 1) := by decide +kernel
theorem dX3_lay_50 : decode cX3_lay 50 = .ok (.iadd, 1) := by decide +kernel
theorem dX3_lay_51 : decode cX3_lay 51 = .ok (.aload_n 0, 1) := by decide +kernel
theorem dX3_lay_52 : decode cX3_lay 52 = .ok (.iload_n 3, 1) := by decide +kernel
theorem dX3_lay_53 : decode cX3_lay 53 = .ok (.iload_n 1, 1) := by decide +kernel
theorem dX3_lay_54 : decode cX3_lay 54 = .ok (.invokevirtual 56, 3) := by decide +kernel
theorem dX3_lay_57 : decode cX3_lay 57 = .ok (.invokevirtual 59, 3) := by decide +kernel
theorem dX3_lay_60 : decode cX3_lay 60 = .ok (.iinc 3 1, 3) := by decide +kernel
theorem dX3_lay_63 : decode cX3_lay 63 = .ok (.goto (-61), 3) := by decide +kernel
theorem dX3_lay_66 : decode cX3_lay 66 = .ok (.iconst 0, 1) := by decide +kernel
theorem dX3_lay_67 : decode cX3_lay 67 = .ok (.istore_n 3, 1) := by decide +kernel
theorem dX3_lay_68 : decode cX3_lay 68 = .ok (.iload_n 3, 1) := by decide +kernel
theorem dX3_lay_69 : decode cX3_lay 69 = .ok (.iconst 2, 1) := by decide +kernel
theorem dX3_lay_70 : decode cX3_lay 70 = .ok (.if_icmp .ge 32, 3) := by decide +kernel
theorem dX3_lay_73 : decode cX3_lay 73 = .ok (.aload_n 0, 1) := by decide +kernel
theorem dX3_lay_74 : decode cX3_lay 74 = .ok (.iload_n 3, 1) := by decide +kernel
theorem dX3_lay_75 : decode cX3_lay 75 = .ok (.invokevirtual 37, 3) := by decide +kernel
theorem dX3_lay_78 : decode cX3_lay 78 = .ok (.ifCond .eq 18, 3) := by decide +kernel
theorem dX3_lay_81 : decode cX3_lay 81 = .ok (.aload_n 2, 1) := by decide +kernel
theorem dX3_lay_82 : decode cX3_lay 82 = .ok (.aload_n 0, 1) := by decide +kernel
theorem dX3_lay_83 : decode cX3_lay 83 = .ok (.getfield 9, 3) := by decide +kernel
theorem dX3_lay_86 : decode cX3_lay 86 = .ok (.iload_n 3, 1) := by decide +kernel
theorem dX3_lay_87 : decode cX3_lay 87 = .ok (.iaload, 1) := by decide +kernel
theorem dX3_lay_88 : decode cX3_lay 88 = .ok (.invokevirtual 63, 3) := by decide +kernel
theorem dX3_lay_91 : decode cX3_lay 91 = .ok (.ifCond .ne 5, 3) := by decide +kernel
theorem dX3_lay_94 : decode cX3_lay 94 = .ok (.iconst 0, 1) := by decide +kernel
theorem dX3_lay_95 : decode cX3_lay 95 = .ok (.ireturn, 1) := by decide +kernel
theorem dX3_lay_96 : decode cX3_lay 96 = .ok (.iinc 3 1, 3) := by decide +kernel
theorem dX3_lay_99 : decode cX3_lay 99 = .ok (.goto (-31), 3) := by decide +kernel
theorem dX3_lay_102 : decode cX3_lay 102 = .ok (.iconst 1, 1) := by decide +kernel
theorem dX3_lay_103 : decode cX3_lay 103 = .ok (.ireturn, 1) := by decide +kernel
theorem dX4_hasNumber_0 : decode cX4_hasNumber 0 = .ok (.iload_n 2, 1) := by decide +kernel
theorem dX4_hasNumber_1 : decode cX4_hasNumber 1 = .ok (.ifCond .lt 20, 3) := by decide +kernel
theorem dX4_hasNumber_4 : decode cX4_hasNumber 4 = .ok (.iload_n 2, 1) := by decide +kernel
theorem dX4_hasNumber_5 : decode cX4_hasNumber 5 = .ok (.aload_n 0, 1) := by decide +kernel
theorem dX4_hasNumber_6 : decode cX4_hasNumber 6 = .ok (.iload_n 1, 1) := by decide +kernel
theorem dX4_hasNumber_7 : decode cX4_hasNumber 7 = .ok (.iconst 0, 1) := by decide +kernel
theorem dX4_hasNumber_8 : decode cX4_hasNumber 8 = .ok (.invokevirtual 73, 3) := by decide +kernel
theorem dX4_hasNumber_11 : decode cX4_hasNumber 11 = .ok (.invokestatic 86, 3) := by decide +kernel
theorem dX4_hasNumber_14 : decode cX4_hasNumber 14 = .ok (.if_icmp .ge 7, 3) := by decide +kernel
theorem dX4_hasNumber_17 : decode cX4_hasNumber 17 = .ok (.iconst 1, 1) := by decide +kernel
theorem dX4_hasNumber_18 : decode cX4_hasNumber 18 = .ok (.goto 4, 3) := by decide +kernel
theorem dX4_hasNumber_21 : decode cX4_hasNumber 21 = .ok (.iconst 0, 1) := by decide +kernel
theorem dX4_hasNumber_22 : decode cX4_hasNumber 22 = .ok (.ireturn, 1) := by decide +kernel
theorem dX4_isItemAsTold_0 : decode cX4_isItemAsTold 0 = .ok (.aload_n 0, 1) := by decide +kernel
theorem dX4_isItemAsTold_1 : decode cX4_isItemAsTold 1 = .ok (.iload_n 1, 1) := by decide +kernel
theorem dX4_isItemAsTold_2 : decode cX4_isItemAsTold 2 = .ok (.iconst 0, 1) := by decide +kernel
theorem dX4_isItemAsTold_3 : decode cX4_isItemAsTold 3 = .ok (.invokevirtual 73, 3) := by decide +kernel
theorem dX4_isItemAsTold_6 : decode cX4_isItemAsTold 6 = .ok (.aload_n 0, 1) := by decide +kernel
theorem dX4_isItemAsTold_7 : decode cX4_isItemAsTold 7 = .ok (.iload_n 1, 1) := by decide +kernel
theorem dX4_isItemAsTold_8 : decode cX4_isItemAsTold 8 = .ok (.iconst 3, 1) := by decide +kernel
theorem dX4_isItemAsTold_9 : decode cX4_isItemAsTold 9 = .ok (.invokevirtual 73, 3) := by decide +kernel
theorem dX4_isItemAsTold_12 : decode cX4_isItemAsTold 12 = .ok (.aload_n 0, 1) := by decide +kernel
theorem dX4_isItemAsTold_13 : decode cX4_isItemAsTold 13 = .ok (.iload_n 1, 1) := by decide +kernel
theorem dX4_isItemAsTold_14 : decode cX4_isItemAsTold 14 = .ok (.iconst 4, 1) := by decide +kernel
theorem dX4_isItemAsTold_15 : decode cX4_isItemAsTold 15 = .ok (.invokevirtual 73, 3) := by decide +kernel
theorem dX4_isItemAsTold_18 : decode cX4_isItemAsTold 18 = .ok (.aload_n 0, 1) := by decide +kernel
theorem dX4_isItemAsTold_19 : decode cX4_isItemAsTold 19 = .ok (.iload_n 1, 1) := by decide +kernel
theorem dX4_isItemAsTold_20 : decode cX4_isItemAsTold 20 = .ok (.iconst 5, 1) := by decide +kernel
theorem dX4_isItemAsTold_21 : decode cX4_isItemAsTold 21 = .ok (.invokevirtual 73, 3) := by decide +kernel
theorem dX4_isItemAsTold_24 : decode cX4_isItemAsTold 24 = .ok (.invokestatic 77, 3) := by decide +kernel
theorem dX4_isItemAsTold_27 : decode cX4_isItemAsTold 27 = .ok (.ireturn, 1) := by decide +kernel
def uvX1_putSeen : List Cond := .code yX1_putSeen cX1_putSeen 5 (some .int) :: ([.initialized RX9, .static yX9_isNoGauge, .static yX9_isOutside, .fieldLink RX1 18 "RiverModel$Gauges" "seen" "[I", .code yX9_isNoGauge cX9_isNoGauge 1 (some .boolean), .code yX9_isOutside cX9_isOutside 3 (some .boolean)] ++ wsX10)
set_option maxRecDepth 20000 in
theorem gu_vX1_putSeen_aX9_isNoGauge_n : GoodIn uvX1_putSeen (uaX9_isNoGauge) := goodIn_r _ [5] rfl (by decide +kernel)
set_option maxRecDepth 20000 in
theorem gu_vX1_putSeen_aX9_isOutside_n : GoodIn uvX1_putSeen (uaX9_isOutside) := goodIn_r _ [6] rfl (by decide +kernel)
set_option maxHeartbeats 4000000 in
set_option maxRecDepth 100000 in
theorem v_X1_putSeen (l : Launch) (D : va_G) (t : Nat → Nat) (cI cL cC : ClassId) (gC : Int32) (gP : Int32) (gT : Nat → Int32) (gR : Nat → Int32) (gm : Int32) (gs : Int32) (gg : Int32) (gL : Nat → Int32) (gQ : Nat → Int32) (gZ : Nat → Int32) (gE : Int32) (gV : Nat → Int32) (gU : Nat → Int32) (gN : Nat → Int32) (a0 : Nat) (a1 : Int32) (a2 : Int32) (a3 : Int32) (uq : ∀ b c : Nat, t b = t c → t b ≠ 0 → b = c) (h0 : 0 ≤ a1.toInt) (h3 : a1.toInt ≤ 3) (hh0 : 0 ≤ a2.toInt) (hh5 : a2.toInt ≤ 95) (k_a0 : t a0 = 6) : tMx (Z := (Nat → Int32)) l yX1_putSeen uvX1_putSeen 1 22 D (rF cI cL cC gC gP gT gR gm gs gg gL gQ gZ gE gV gU gN) (fun z => (rF cI cL cC gC gP gT gR gm gs gg gL gQ gZ gE gV gU z)) t cI cL cC [.ref a0, .int a1, .int a2, .int a3] vN (xI (fun r (z : (Nat → Int32)) => r = gN (96 * a1.toInt + a2.toInt).toNat ∧ z = upd gN (96 * a1.toInt + a2.toInt).toNat a3)) := by
  refine tMx.ofW (cc := cX1_putSeen) (maxL := 5) (ret := (some .int)) (by decide) rfl (Nat.le_of_ble_eq_true rfl) ?_
  intro p e s m below meth c hx hb hr hml hown hts hlk H locs hG hK hE hS ls hl
  have hl : lv_has ls 5 [(0, .ref a0), (1, .int a1), (2, .int a2), (3, .int a3)] := hl
  have in1 : ∀ w ∈ wsX10, w ∈ uvX1_putSeen := fun w h => List.mem_cons_of_mem _ (List.mem_append_right _ h)
  refine lv_iload_n hx hb dX1_putSeen_0 rfl (lv_at hl 1 rfl) ?_
  refine ty_calli (tRun (va_runSN (As := [.int a1]) (rest := []) ⟨hx, hb, hml, hown, hts⟩ (a_X9_isNoGauge l D t cI cL cC (rF cI cL cC gC gP gT gR gm gs gg gL gQ gZ gE gV gU gN) a1   ) ⟨(va_cnB 1 hts gu_vX1_putSeen_aX9_isNoGauge_n rfl rfl rfl (hE.2.1 _ (List.mem_of_getElem? (i := 15) rfl)) (hts (.initialized RX9) (List.mem_of_getElem? (i := 1) rfl)) (by decide +kernel) ⟨Nat.le_of_ble_eq_true rfl, Nat.le_of_ble_eq_true rfl⟩), (hts (.static yX9_isNoGauge) (List.mem_of_getElem? (i := 2) rfl)), trivial⟩ (tP_S hG hE) rfl rfl hl.1 rfl (lv_room (Nat.le_of_ble_eq_true rfl)) dX1_putSeen_1 ⟨Nat.le_of_ble_eq_true rfl, Nat.le_of_ble_eq_true rfl⟩)) hS (fun k h => by simp [wr0] at h) (fun r_1 H locs hp_2 hG hS o_3 => ?_)
  have hp_2 : (r_1 = 1 ∧ (a1.toInt < 0 ∨ 3 < a1.toInt)) ∨ (r_1 = 0 ∧ 0 ≤ a1.toInt ∧ a1.toInt ≤ 3) := hp_2
  rcases hp_2 with ⟨rfl, p_5⟩ | ⟨rfl, p_6, p_7⟩
  · skip
    refine lv_if_ne (tgt := 17) hx hb dX1_putSeen_4 (by decide) (fun _ => ?_) (fun q => absurd q (by decide))
    refine lv_iconst (v := (-1)) hx hb dX1_putSeen_17 (by decide) ?_
    have zi_m1 : ((-1) : Int32).toInt = (-1) := by decide
    exact tx_iret (z := (gN)) hx hb hr hlk hG hS ⟨(by exfalso; omega), (by exfalso; omega)⟩ dX1_putSeen_18
  · skip
    refine lv_if_ne (tgt := 17) hx hb dX1_putSeen_4 (by decide) (fun q => absurd rfl q) (fun _ => ?_)
    refine lv_iload_n hx hb dX1_putSeen_7 rfl (lv_at hl 2 rfl) ?_
    refine lv_pc (pc2 := 8) rfl ?_
    refine lv_iconst (v := 0) hx hb dX1_putSeen_8 (by decide) ?_
    refine lv_bipush (v := 95) hx hb dX1_putSeen_9 (by decide) ?_
    have zi_0 : (0 : Int32).toInt = 0 := by decide
    have zi_95 : (95 : Int32).toInt = 95 := by decide
    refine ty_calli (tRun (va_runSN (As := [.int a2, .int 0, .int 95]) (rest := []) ⟨hx, hb, hml, hown, hts⟩ (a_X9_isOutside l D t cI cL cC (rF cI cL cC gC gP gT gR gm gs gg gL gQ gZ gE gV gU gN) a2 0 95 a2.toInt 0 95 rfl (by decide) (by decide) ) ⟨(va_cnB 3 hts gu_vX1_putSeen_aX9_isOutside_n rfl rfl rfl (hE.2.1 _ (List.mem_of_getElem? (i := 18) rfl)) (hts (.initialized RX9) (List.mem_of_getElem? (i := 1) rfl)) (by decide +kernel) ⟨Nat.le_of_ble_eq_true rfl, Nat.le_of_ble_eq_true rfl⟩), (hts (.static yX9_isOutside) (List.mem_of_getElem? (i := 3) rfl)), trivial⟩ (tP_S hG hE) rfl rfl hl.1 rfl (lv_room (Nat.le_of_ble_eq_true rfl)) dX1_putSeen_11 ⟨Nat.le_of_ble_eq_true rfl, Nat.le_of_ble_eq_true rfl⟩)) hS (fun k h => by simp [wr0] at h) (fun r_8 H locs hp_9 hG hS o_10 => ?_)
    have hp_9 : (r_8 = 1 ∧ (a2.toInt < 0 ∨ 95 < a2.toInt)) ∨ (r_8 = 0 ∧ 0 ≤ a2.toInt ∧ a2.toInt ≤ 95) := hp_9
    rcases hp_9 with ⟨rfl, p_12⟩ | ⟨rfl, p_13, p_14⟩
    · skip
      refine lv_if_eq (tgt := 19) hx hb dX1_putSeen_14 (by decide) (fun q => absurd q (by decide)) (fun _ => ?_)
      refine lv_iconst (v := (-1)) hx hb dX1_putSeen_17 (by decide) ?_
      have zi_m1 : ((-1) : Int32).toInt = (-1) := by decide
      exact tx_iret (z := (gN)) hx hb hr hlk hG hS ⟨(by exfalso; omega), (by exfalso; omega)⟩ dX1_putSeen_18
    · skip
      refine lv_if_eq (tgt := 19) hx hb dX1_putSeen_14 (by decide) (fun _ => ?_) (fun q => absurd (by decide) q)
      refine lv_aload_n hx hb dX1_putSeen_19 rfl (lv_at hl 0 rfl) ?_
      refine lv_pc (pc2 := 20) rfl ?_
      obtain ⟨r_15, r_17, r_19, at_21, h_16, h_18, h_20⟩ := rF_o6 hG k_a0
      refine va_get (D := D) (ci := 1) (v := .ref r_19) (C := RX1) (T := TX1) (N := 4) hx hb hts in1 hown hK (va_one at_21) 0 rfl rfl 2 (by decide) (hts (.fieldLink RX1 18 "RiverModel$Gauges" "seen" "[I") (List.mem_of_getElem? (i := 4) rfl)) (fun _ h9 => h9) rfl dX1_putSeen_20 ?_
      refine lv_iload_n hx hb dX1_putSeen_23 rfl (lv_at hl 1 rfl) ?_
      refine lv_bipush (v := 96) hx hb dX1_putSeen_24 (by decide) ?_
      refine lv_imul hx hb dX1_putSeen_26 ?_
      refine lv_topi (fun x_22 e_23 => ?_)
      have i_x_22 : x_22.toInt = a1.toInt * 96 := by rw [e_23]; exact (q_mul (by rw [show (96 : Int32).toInt = 96 by decide]; omega) (by rw [show (96 : Int32).toInt = 96 by decide]; omega)).trans (by rw [show (96 : Int32).toInt = 96 by decide])
      refine lv_iload_n hx hb dX1_putSeen_27 rfl (lv_at hl 2 rfl) ?_
      refine lv_iadd hx hb dX1_putSeen_28 ?_
      refine lv_topi (fun x_24 e_25 => ?_)
      have i_x_24 : x_24.toInt = x_22.toInt + a2.toInt := by rw [e_25]; exact (q_add (by omega) (by omega)).trans (by rfl)
      have at_26 := rF_o23 hG h_20
      have b_27 : vp_in x_24 384 := (q_in (by omega) (by omega))
      refine va_iald hx hb hK (va_one at_26) 0 0 rfl rfl b_27 dX1_putSeen_29 ?_
      refine lv_topi (fun x_28 e_29 => ?_)
      have w_x_28 : x_28 = gN (96 * a1.toInt + a2.toInt).toNat := by rw [e_29]; exact congrArg (fun q : Int => gN q.toNat) (show x_24.toInt = 96 * a1.toInt + a2.toInt by omega)
      have i_x_28 : x_28.toInt = (gN (96 * a1.toInt + a2.toInt).toNat).toInt := by rw [w_x_28]
      refine lv_istore (lv' := [(4, .int x_28), (0, .ref a0), (1, .int a1), (2, .int a2), (3, .int a3)]) hx hb dX1_putSeen_30 hl (by decide) rfl (fun ls hl => ?_)
      refine lv_pc (pc2 := 32) rfl ?_
      refine lv_aload_n hx hb dX1_putSeen_32 rfl (lv_at hl 1 rfl) ?_
      refine va_get (D := D) (ci := 1) (v := .ref r_19) (C := RX1) (T := TX1) (N := 4) hx hb hts in1 hown hK (va_one at_21) 0 rfl rfl 2 (by decide) (hts (.fieldLink RX1 18 "RiverModel$Gauges" "seen" "[I") (List.mem_of_getElem? (i := 4) rfl)) (fun _ h9 => h9) rfl dX1_putSeen_33 ?_
      refine lv_iload_n hx hb dX1_putSeen_36 rfl (lv_at hl 2 rfl) ?_
      refine lv_bipush (v := 96) hx hb dX1_putSeen_37 (by decide) ?_
      refine lv_imul hx hb dX1_putSeen_39 ?_
      refine lv_topi (fun x_30 e_31 => ?_)
      have i_x_30 : x_30.toInt = a1.toInt * 96 := by rw [e_31]; exact (q_mul (by rw [show (96 : Int32).toInt = 96 by decide]; omega) (by rw [show (96 : Int32).toInt = 96 by decide]; omega)).trans (by rw [show (96 : Int32).toInt = 96 by decide])
      refine lv_iload_n hx hb dX1_putSeen_40 rfl (lv_at hl 3 rfl) ?_
      refine lv_iadd hx hb dX1_putSeen_41 ?_
      refine lv_topi (fun x_32 e_33 => ?_)
      have i_x_32 : x_32.toInt = x_30.toInt + a2.toInt := by rw [e_33]; exact (q_add (by omega) (by omega)).trans (by rfl)
      refine lv_iload_n hx hb dX1_putSeen_42 rfl (lv_at hl 4 rfl) ?_
      refine lv_pc (pc2 := 43) rfl ?_
      have b_34 : vp_in x_32 384 := (q_in (by omega) (by omega))
      obtain ⟨q_35, eq_35⟩ : ∃ q : Nat → Int32, q = upd gN x_32.toNatClampNeg a3 := ⟨_, rfl⟩
      refine ty_iast (F2 := (rF cI cL cC gC gP gT gR gm gs gg gL gQ gZ gE gV gU q_35)) hx hb hK hG hS 0 at_26 (by rw [h_20]; rfl) rfl b_34 (by rw [h_20]; show _ = _; rw [eq_35]) (fun hG b hb h0 => by obtain ⟨e, g1, g2⟩ := hG b h0; exact ⟨e, g1, rF_gN (fun h => hb (uq b r_19 (h.trans h_20.symm) h0)) g2⟩) dX1_putSeen_43 (fun H locs hG hS at_36 o_37 => ?_)
      have at_21 := va_at.keptK at_21 o_37 h_20 k_a0 rfl
      refine lv_iload hx hb dX1_putSeen_44 (lv_at hl 0 rfl) ?_
      exact tx_iret (z := (q_35)) hx hb hr hlk hG hS ⟨(show x_28 = gN (96 * a1.toInt + a2.toInt).toNat from w_x_28), (by show q_35 = upd gN (96 * a1.toInt + a2.toInt).toNat a3; rw [eq_35, q_clE (x := x_32) (n := 96 * a1.toInt + a2.toInt) (by omega)])⟩ dX1_putSeen_46

def uvX3_isSet : List Cond := .code yX3_isSet cX3_isSet 2 (some .boolean) :: ([.fieldLink RX3 24 "RiverModel$Knobs" "manys" "[I"] ++ wsX30)
set_option maxHeartbeats 4000000 in
set_option maxRecDepth 100000 in
theorem v_X3_isSet (l : Launch) (D : va_G) (t : Nat → Nat) (cI cL cC : ClassId) (gC : Int32) (gP : Int32) (gT : Nat → Int32) (gR : Nat → Int32) (gm : Int32) (gs : Int32) (gg : Int32) (gL : Nat → Int32) (gQ : Nat → Int32) (gZ : Nat → Int32) (gE : Int32) (gV : Nat → Int32) (gU : Nat → Int32) (gN : Nat → Int32) (a0 : Nat) (a1 : Int32) (uq : ∀ b c : Nat, t b = t c → t b ≠ 0 → b = c) (k_a0 : t a0 = 7) : tM l yX3_isSet uvX3_isSet 0 0 D (rF cI cL cC gC gP gT gR gm gs gg gL gQ gZ gE gV gU gN) (rF cI cL cC gC gP gT gR gm gs gg gL gQ gZ gE gV gU gN) t cI cL cC [.ref a0, .int a1] wr0 (pI (fun r => (r = 1 ∧ 0 ≤ a1.toInt ∧ a1.toInt ≤ 1) ∨ (r = 0))) := by
  refine tM.ofW (cc := cX3_isSet) (maxL := 2) (ret := (some .boolean)) (by decide) rfl (Nat.le_of_ble_eq_true rfl) ?_
  intro p e s m below meth c hx hb hr hml hown hts hlk H locs hG hK hE hS ls hl
  have hl : lv_has ls 2 [(0, .ref a0), (1, .int a1)] := hl
  have in3 : ∀ w ∈ wsX30, w ∈ uvX3_isSet := fun w h => List.mem_cons_of_mem _ (List.mem_append_right _ h)
  refine lv_iload_n hx hb dX3_isSet_0 rfl (lv_at hl 1 rfl) ?_
  refine lv_if_lt (tgt := 22) hx hb dX3_isSet_1 (by decide) (fun c_1 => ?_) (fun c_1 => ?_)
  · skip
    have c_1 : a1.toInt < 0 := q_lt c_1
    refine lv_iconst (v := 0) hx hb dX3_isSet_22 (by decide) ?_
    have zi_0 : (0 : Int32).toInt = 0 := by decide
    exact ty_zret hx hb hr hlk rfl hG hS (Or.inr rfl) dX3_isSet_23
  · skip
    have c_1 : 0 ≤ a1.toInt := q_nlt c_1
    refine lv_iload_n hx hb dX3_isSet_4 rfl (lv_at hl 1 rfl) ?_
    refine lv_iconst (v := 2) hx hb dX3_isSet_5 (by decide) ?_
    refine lv_icmp_ge (tgt := 22) hx hb dX3_isSet_6 (by decide) (fun c_2 => ?_) (fun c_2 => ?_)
    · skip
      have c_2 : 2 ≤ a1.toInt := q_le c_2
      refine lv_pc (pc2 := 22) rfl ?_
      refine lv_iconst (v := 0) hx hb dX3_isSet_22 (by decide) ?_
      have zi_0 : (0 : Int32).toInt = 0 := by decide
      exact ty_zret hx hb hr hlk rfl hG hS (Or.inr rfl) dX3_isSet_23
    · skip
      have c_2 : a1.toInt < 2 := q_nle c_2
      refine lv_aload_n hx hb dX3_isSet_9 rfl (lv_at hl 0 rfl) ?_
      obtain ⟨r_3, r_5, r_7, r_9, r_11, at_13, h_4, h_6, h_8, h_10, h_12⟩ := rF_o7 hG k_a0
      refine va_get (D := D) (ci := 2) (v := .ref r_11) (C := RX3) (T := TX3) (N := 5) hx hb hts in3 hown hK (va_one at_13) 0 rfl rfl 4 (by decide) (hts (.fieldLink RX3 24 "RiverModel$Knobs" "manys" "[I") (List.mem_of_getElem? (i := 1) rfl)) (fun _ h9 => h9) rfl dX3_isSet_10 ?_
      refine lv_iload_n hx hb dX3_isSet_13 rfl (lv_at hl 1 rfl) ?_
      obtain ⟨f_14, at_15, h_16⟩ := rF_o28 hG h_12
      have b_17 : vp_in a1 2 := (q_in (by omega) (by omega))
      refine va_iald hx hb hK (va_one at_15) 0 0 rfl rfl b_17 dX3_isSet_14 ?_
      refine lv_topi (fun x_18 e_19 => ?_)
      have i_x_18 := by have h := h_16 _ (q_inlt b_17); rw [← e_19] at h; exact h
      refine lv_if_le (tgt := 22) hx hb dX3_isSet_15 (by decide) (fun c_20 => ?_) (fun c_20 => ?_)
      · skip
        have c_20 : x_18.toInt ≤ 0 := q_le c_20
        refine lv_iconst (v := 0) hx hb dX3_isSet_22 (by decide) ?_
        refine lv_pc (pc2 := 23) rfl ?_
        have zi_0 : (0 : Int32).toInt = 0 := by decide
        exact ty_zret hx hb hr hlk rfl hG hS (Or.inr rfl) dX3_isSet_23
      · skip
        have c_20 : 0 < x_18.toInt := q_nle c_20
        refine lv_iconst (v := 1) hx hb dX3_isSet_18 (by decide) ?_
        refine lv_goto (tgt := 23) hx hb dX3_isSet_19 (by decide) ?_
        have zi_1 : (1 : Int32).toInt = 1 := by decide
        exact ty_zret hx hb hr hlk rfl hG hS (Or.inl ⟨rfl, (by show 0 ≤ a1.toInt; omega), (by show a1.toInt ≤ 1; omega)⟩) dX3_isSet_23

def uvX3_pointsOf : List Cond := .code yX3_pointsOf cX3_pointsOf 2 (some .int) :: ([.methodLink RX3 37 yX3_isSet, .instanceMethod yX3_isSet, .selects RX3 yX3_isSet yX3_isSet, .initialized RX3, .fieldLink RX3 24 "RiverModel$Knobs" "manys" "[I", .code yX3_isSet cX3_isSet 2 (some .boolean)] ++ wsX30)
set_option maxRecDepth 20000 in
theorem gu_vX3_pointsOf_vX3_isSet_37 : GoodIn uvX3_pointsOf (wsV RX3 37 RX3 yX3_isSet uvX3_isSet) := goodIn_r _ [1, 2, 3, 4, 6, 5, 7, 8, 9, 10, 11] rfl (by decide +kernel)
set_option maxHeartbeats 4000000 in
set_option maxRecDepth 100000 in
theorem v_X3_pointsOf (l : Launch) (D : va_G) (t : Nat → Nat) (cI cL cC : ClassId) (gC : Int32) (gP : Int32) (gT : Nat → Int32) (gR : Nat → Int32) (gm : Int32) (gs : Int32) (gg : Int32) (gL : Nat → Int32) (gQ : Nat → Int32) (gZ : Nat → Int32) (gE : Int32) (gV : Nat → Int32) (gU : Nat → Int32) (gN : Nat → Int32) (a0 : Nat) (a1 : Int32) (uq : ∀ b c : Nat, t b = t c → t b ≠ 0 → b = c) (k_a0 : t a0 = 7) : tM l yX3_pointsOf uvX3_pointsOf 1 21 D (rF cI cL cC gC gP gT gR gm gs gg gL gQ gZ gE gV gU gN) (rF cI cL cC gC gP gT gR gm gs gg gL gQ gZ gE gV gU gN) t cI cL cC [.ref a0, .int a1] wr0 (pI (fun r => True)) := by
  refine tM.ofW (cc := cX3_pointsOf) (maxL := 2) (ret := (some .int)) (by decide) rfl (Nat.le_of_ble_eq_true rfl) ?_
  intro p e s m below meth c hx hb hr hml hown hts hlk H locs hG hK hE hS ls hl
  have hl : lv_has ls 2 [(0, .ref a0), (1, .int a1)] := hl
  have in3 : ∀ w ∈ wsX30, w ∈ uvX3_pointsOf := fun w h => List.mem_cons_of_mem _ (List.mem_append_right _ h)
  refine lv_aload_n hx hb dX3_pointsOf_0 rfl (lv_at hl 0 rfl) ?_
  refine lv_iload_n hx hb dX3_pointsOf_1 rfl (lv_at hl 1 rfl) ?_
  obtain ⟨r_1, r_3, r_5, r_7, r_9, at_11, h_2, h_4, h_6, h_8, h_10⟩ := rF_o7 hG k_a0
  refine ty_calli (W.runV (As := [.int a1]) (rest := []) ⟨hx, hb, hml, hown, hts⟩ (v_X3_isSet l D t cI cL cC gC gP gT gR gm gs gg gL gQ gZ gE gV gU gN a0 a1  uq  k_a0) (cwV 1 hts gu_vX3_pointsOf_vX3_isSet_37 rfl rfl rfl (by decide +kernel) ⟨Nat.le_of_ble_eq_true rfl, Nat.le_of_ble_eq_true rfl⟩) (tP_V hG hE at_11 rfl) rfl rfl hl.1 rfl (lv_room (Nat.le_of_ble_eq_true rfl)) dX3_pointsOf_2 ⟨Nat.le_of_ble_eq_true rfl, Nat.le_of_ble_eq_true rfl⟩) hS (fun _ h => h) (fun r_12 H locs hp_13 hG hS o_14 => ?_)
  have at_11 := va_at.keptC at_11 o_14 k_a0 rfl
  have hp_13 : (r_12 = 1 ∧ 0 ≤ a1.toInt ∧ a1.toInt ≤ 1) ∨ (r_12 = 0) := hp_13
  rcases hp_13 with ⟨rfl, p_16, p_17⟩ | rfl
  · skip
    refine lv_if_eq (tgt := 17) hx hb dX3_pointsOf_5 (by decide) (fun q => absurd q (by decide)) (fun _ => ?_)
    refine lv_aload_n hx hb dX3_pointsOf_8 rfl (lv_at hl 0 rfl) ?_
    refine va_get (D := D) (ci := 2) (v := .ref r_9) (C := RX3) (T := TX3) (N := 5) hx hb hts in3 hown hK (va_one at_11) 0 rfl rfl 4 (by decide) (hts (.fieldLink RX3 24 "RiverModel$Knobs" "manys" "[I") (List.mem_of_getElem? (i := 5) rfl)) (fun _ h9 => h9) rfl dX3_pointsOf_9 ?_
    refine lv_iload_n hx hb dX3_pointsOf_12 rfl (lv_at hl 1 rfl) ?_
    refine lv_pc (pc2 := 13) rfl ?_
    obtain ⟨f_18, at_19, h_20⟩ := rF_o28 hG h_10
    have b_21 : vp_in a1 2 := (q_in (by omega) (by omega))
    refine va_iald hx hb hK (va_one at_19) 0 0 rfl rfl b_21 dX3_pointsOf_13 ?_
    refine lv_topi (fun x_22 e_23 => ?_)
    have g_x_22 : 0 ≤ x_22.toInt ∧ x_22.toInt ≤ 16 := by rw [e_23]; exact h_20 _ (q_inlt b_21)
    refine lv_goto (tgt := 18) hx hb dX3_pointsOf_14 (by decide) ?_
    exact ty_iret hx hb hr hlk hG hS True.intro dX3_pointsOf_18
  · skip
    refine lv_if_eq (tgt := 17) hx hb dX3_pointsOf_5 (by decide) (fun _ => ?_) (fun q => absurd (by decide) q)
    refine lv_iconst (v := 1) hx hb dX3_pointsOf_17 (by decide) ?_
    have zi_1 : (1 : Int32).toInt = 1 := by decide
    exact ty_iret hx hb hr hlk hG hS True.intro dX3_pointsOf_18

def uvX3_numberAt : List Cond := .code yX3_numberAt cX3_numberAt 4 (some .int) :: ([.initialized RX9, .static yX9_isNoKnob, .methodLink RX3 40 yX3_pointsOf, .instanceMethod yX3_pointsOf, .selects RX3 yX3_pointsOf yX3_pointsOf, .initialized RX3, .methodLink RX3 44 Lib.Math.max.name, .static Lib.Math.max.name, .initialized "java/lang/Math", .code Lib.Math.max.name Lib.Math.max.code 2 (some .int), .fieldLink RX3 18 "RiverModel$Knobs" "froms" "[I", .fieldLink RX3 21 "RiverModel$Knobs" "steps" "[I", .code yX9_isNoKnob cX9_isNoKnob 1 (some .boolean), .code yX3_pointsOf cX3_pointsOf 2 (some .int), .methodLink RX3 37 yX3_isSet, .instanceMethod yX3_isSet, .selects RX3 yX3_isSet yX3_isSet, .fieldLink RX3 24 "RiverModel$Knobs" "manys" "[I", .code yX3_isSet cX3_isSet 2 (some .boolean)] ++ wsX30)
set_option maxRecDepth 20000 in
theorem gu_vX3_numberAt_aX9_isNoKnob_n : GoodIn uvX3_numberAt (uaX9_isNoKnob) := goodIn_r _ [13] rfl (by decide +kernel)
set_option maxRecDepth 20000 in
theorem gu_vX3_numberAt_vX3_pointsOf_40 : GoodIn uvX3_numberAt (wsV RX3 40 RX3 yX3_pointsOf uvX3_pointsOf) := goodIn_r _ [3, 4, 5, 6, 14, 15, 16, 17, 6, 18, 19, 20, 21, 22, 23, 24] rfl (by decide +kernel)
set_option maxHeartbeats 4000000 in
set_option maxRecDepth 100000 in
theorem v_X3_numberAt (l : Launch) (D : va_G) (t : Nat → Nat) (cI cL cC : ClassId) (gC : Int32) (gP : Int32) (gT : Nat → Int32) (gR : Nat → Int32) (gm : Int32) (gs : Int32) (gg : Int32) (gL : Nat → Int32) (gQ : Nat → Int32) (gZ : Nat → Int32) (gE : Int32) (gV : Nat → Int32) (gU : Nat → Int32) (gN : Nat → Int32) (a0 : Nat) (a1 : Int32) (a2 : Int32) (uq : ∀ b c : Nat, t b = t c → t b ≠ 0 → b = c) (k_a0 : t a0 = 7) : tM l yX3_numberAt uvX3_numberAt 2 42 D (rF cI cL cC gC gP gT gR gm gs gg gL gQ gZ gE gV gU gN) (rF cI cL cC gC gP gT gR gm gs gg gL gQ gZ gE gV gU gN) t cI cL cC [.ref a0, .int a1, .int a2] wr0 (pI (fun r => True)) := by
  refine tM.ofW (cc := cX3_numberAt) (maxL := 4) (ret := (some .int)) (by decide) rfl (Nat.le_of_ble_eq_true rfl) ?_
  intro p e s m below meth c hx hb hr hml hown hts hlk H locs hG hK hE hS ls hl
  have hl : lv_has ls 4 [(0, .ref a0), (1, .int a1), (2, .int a2)] := hl
  have in3 : ∀ w ∈ wsX30, w ∈ uvX3_numberAt := fun w h => List.mem_cons_of_mem _ (List.mem_append_right _ h)
  refine lv_iload_n hx hb dX3_numberAt_0 rfl (lv_at hl 1 rfl) ?_
  refine ty_calli (tRun (va_runSN (As := [.int a1]) (rest := []) ⟨hx, hb, hml, hown, hts⟩ (a_X9_isNoKnob l D t cI cL cC (rF cI cL cC gC gP gT gR gm gs gg gL gQ gZ gE gV gU gN) a1   ) ⟨(va_cnB 1 hts gu_vX3_numberAt_aX9_isNoKnob_n rfl rfl rfl (hE.2.1 _ (List.mem_of_getElem? (i := 19) rfl)) (hts (.initialized RX9) (List.mem_of_getElem? (i := 1) rfl)) (by decide +kernel) ⟨Nat.le_of_ble_eq_true rfl, Nat.le_of_ble_eq_true rfl⟩), (hts (.static yX9_isNoKnob) (List.mem_of_getElem? (i := 2) rfl)), trivial⟩ (tP_S hG hE) rfl rfl hl.1 rfl (lv_room (Nat.le_of_ble_eq_true rfl)) dX3_numberAt_1 ⟨Nat.le_of_ble_eq_true rfl, Nat.le_of_ble_eq_true rfl⟩)) hS (fun _ h => h) (fun r_1 H locs hp_2 hG hS o_3 => ?_)
  have hp_2 : (r_1 = 1 ∧ (a1.toInt < 0 ∨ 1 < a1.toInt)) ∨ (r_1 = 0 ∧ 0 ≤ a1.toInt ∧ a1.toInt ≤ 1) := hp_2
  rcases hp_2 with ⟨rfl, p_5⟩ | ⟨rfl, p_6, p_7⟩
  · skip
    refine lv_if_eq (tgt := 10) hx hb dX3_numberAt_4 (by decide) (fun q => absurd q (by decide)) (fun _ => ?_)
    refine lv_bipush (v := (-4)) hx hb dX3_numberAt_7 (by decide) ?_
    have zi_m4 : ((-4) : Int32).toInt = (-4) := by decide
    exact ty_iret hx hb hr hlk hG hS True.intro dX3_numberAt_9
  · skip
    refine lv_if_eq (tgt := 10) hx hb dX3_numberAt_4 (by decide) (fun _ => ?_) (fun q => absurd (by decide) q)
    refine lv_iconst (v := 1) hx hb dX3_numberAt_10 (by decide) ?_
    refine lv_pc (pc2 := 11) rfl ?_
    refine lv_aload_n hx hb dX3_numberAt_11 rfl (lv_at hl 0 rfl) ?_
    refine lv_iconst (v := 1) hx hb dX3_numberAt_12 (by decide) ?_
    have zi_1 : (1 : Int32).toInt = 1 := by decide
    obtain ⟨r_8, r_10, r_12, r_14, r_16, at_18, h_9, h_11, h_13, h_15, h_17⟩ := rF_o7 hG k_a0
    refine ty_calli (W.runV (As := [.int 1]) (rest := [.int 1]) ⟨hx, hb, hml, hown, hts⟩ (v_X3_pointsOf l D t cI cL cC gC gP gT gR gm gs gg gL gQ gZ gE gV gU gN a0 1  uq  k_a0) (cwV 1 hts gu_vX3_numberAt_vX3_pointsOf_40 rfl rfl rfl (by decide +kernel) ⟨Nat.le_of_ble_eq_true rfl, Nat.le_of_ble_eq_true rfl⟩) (tP_V hG hE at_18 rfl) rfl rfl hl.1 rfl (lv_room (Nat.le_of_ble_eq_true rfl)) dX3_numberAt_13 ⟨Nat.le_of_ble_eq_true rfl, Nat.le_of_ble_eq_true rfl⟩) hS (fun _ h => h) (fun r_19 H locs hp_20 hG hS o_21 => ?_)
    have at_18 := va_at.keptC at_18 o_21 k_a0 rfl
    refine va_mmax hx hb (by rw [hml]; exact hl.1.symm) hown (hts (.methodLink RX3 44 Lib.Math.max.name) (List.mem_of_getElem? (i := 7) rfl)) (hts (.static Lib.Math.max.name) (List.mem_of_getElem? (i := 8) rfl)) (hts (.initialized "java/lang/Math") (List.mem_of_getElem? (i := 9) rfl)) (hts (.code Lib.Math.max.name Lib.Math.max.code 2 (some .int)) (List.mem_of_getElem? (i := 10) rfl)) (Nat.le_of_ble_eq_true rfl) (Nat.le_of_ble_eq_true rfl) (Nat.zero_le _) (Nat.zero_le _) dX3_numberAt_16 ?_
    refine lv_topi (fun x_23 e_24 => ?_)
    have m_x_23 : 1 ≤ x_23.toInt ∧ r_19.toInt ≤ x_23.toInt ∧ (x_23.toInt = 1 ∨ x_23.toInt = r_19.toInt) := by rw [e_24]; exact q_max _ _
    refine lv_istore_n (lv' := [(3, .int x_23), (0, .ref a0), (1, .int a1), (2, .int a2)]) hx hb dX3_numberAt_19 rfl hl (by decide) rfl (fun ls hl => ?_)
    refine lv_aload_n hx hb dX3_numberAt_20 rfl (lv_at hl 1 rfl) ?_
    refine va_get (D := D) (ci := 2) (v := .ref r_12) (C := RX3) (T := TX3) (N := 5) hx hb hts in3 hown hK (va_one at_18) 0 rfl rfl 2 (by decide) (hts (.fieldLink RX3 18 "RiverModel$Knobs" "froms" "[I") (List.mem_of_getElem? (i := 11) rfl)) (fun _ h9 => h9) rfl dX3_numberAt_21 ?_
    refine lv_iload_n hx hb dX3_numberAt_24 rfl (lv_at hl 2 rfl) ?_
    refine lv_pc (pc2 := 25) rfl ?_
    obtain ⟨f_25, at_26⟩ := rF_o26 hG h_13
    have b_27 : vp_in a1 2 := (q_in (by omega) (by omega))
    refine va_iald hx hb hK (va_one at_26) 0 0 rfl rfl b_27 dX3_numberAt_25 ?_
    refine lv_topi (fun x_28 e_29 => ?_)
    refine lv_aload_n hx hb dX3_numberAt_26 rfl (lv_at hl 1 rfl) ?_
    refine va_get (D := D) (ci := 2) (v := .ref r_14) (C := RX3) (T := TX3) (N := 5) hx hb hts in3 hown hK (va_one at_18) 0 rfl rfl 3 (by decide) (hts (.fieldLink RX3 21 "RiverModel$Knobs" "steps" "[I") (List.mem_of_getElem? (i := 12) rfl)) (fun _ h9 => h9) rfl dX3_numberAt_27 ?_
    refine lv_iload_n hx hb dX3_numberAt_30 rfl (lv_at hl 2 rfl) ?_
    obtain ⟨f_30, at_31⟩ := rF_o27 hG h_15
    have b_32 : vp_in a1 2 := (q_in (by omega) (by omega))
    refine va_iald hx hb hK (va_one at_31) 0 0 rfl rfl b_32 dX3_numberAt_31 ?_
    refine lv_topi (fun x_33 e_34 => ?_)
    refine lv_iload_n hx hb dX3_numberAt_32 rfl (lv_at hl 2 rfl) ?_
    refine lv_if_ne (tgt := 42) hx hb dX3_numberAt_33 (by decide) (fun c_35 => ?_) (fun c_35 => ?_)
    · skip
      have c_35 : a1.toInt ≠ 0 := q_ne c_35
      refine lv_iload_n hx hb dX3_numberAt_42 rfl (lv_at hl 3 rfl) ?_
      refine lv_pc (pc2 := 43) rfl ?_
      refine lv_iload_n hx hb dX3_numberAt_43 rfl (lv_at hl 0 rfl) ?_
      refine lv_irem hx hb dX3_numberAt_44 (q_nz (by omega)) ?_
      refine lv_topi (fun x_36 e_37 => ?_)
      refine lv_imul hx hb dX3_numberAt_45 ?_
      refine lv_topi (fun x_38 e_39 => ?_)
      refine lv_iadd hx hb dX3_numberAt_46 ?_
      refine lv_topi (fun x_40 e_41 => ?_)
      exact ty_iret hx hb hr hlk hG hS True.intro dX3_numberAt_47
    · skip
      have c_35 : a1.toInt = 0 := q_eq c_35
      refine lv_iload_n hx hb dX3_numberAt_36 rfl (lv_at hl 3 rfl) ?_
      refine lv_iload_n hx hb dX3_numberAt_37 rfl (lv_at hl 0 rfl) ?_
      refine lv_idiv hx hb dX3_numberAt_38 (q_nz (by omega)) ?_
      refine lv_topi (fun x_42 e_43 => ?_)
      refine lv_pc (pc2 := 39) rfl ?_
      refine lv_goto (tgt := 45) hx hb dX3_numberAt_39 (by decide) ?_
      refine lv_imul hx hb dX3_numberAt_45 ?_
      refine lv_topi (fun x_44 e_45 => ?_)
      refine lv_iadd hx hb dX3_numberAt_46 ?_
      refine lv_topi (fun x_46 e_47 => ?_)
      exact ty_iret hx hb hr hlk hG hS True.intro dX3_numberAt_47

def uvX4_hasNumber : List Cond := .code yX4_hasNumber cX4_hasNumber 3 (some .boolean) :: ([.methodLink RX4 73 yX4_cell, .instanceMethod yX4_cell, .selects RX4 yX4_cell yX4_cell, .initialized RX4, .methodLink RX4 86 yX2_numbersOf, .static yX2_numbersOf, .initialized RX2, .code yX4_cell cX4_cell 3 (some .int), .fieldLink RX4 9 "RiverModel$Model" "cells" "[I", .code yX2_numbersOf cX2_numbersOf 1 (some .int)] ++ wsX40)
set_option maxRecDepth 20000 in
theorem gu_vX4_hasNumber_vX4_cell_73 : GoodIn uvX4_hasNumber (wsV RX4 73 RX4 yX4_cell uvX4_cell) := goodIn_r _ [1, 2, 3, 4, 8, 9, 11, 12, 13, 14, 15, 16] rfl (by decide +kernel)
set_option maxRecDepth 20000 in
theorem gu_vX4_hasNumber_aX2_numbersOf_86 : GoodIn uvX4_hasNumber (va_wsS RX4 86 yX2_numbersOf uaX2_numbersOf) := goodIn_r _ [5, 6, 7, 10] rfl (by decide +kernel)
set_option maxHeartbeats 4000000 in
set_option maxRecDepth 100000 in
theorem v_X4_hasNumber (l : Launch) (D : va_G) (t : Nat → Nat) (cI cL cC : ClassId) (gC : Int32) (gP : Int32) (gT : Nat → Int32) (gR : Nat → Int32) (gm : Int32) (gs : Int32) (gg : Int32) (gL : Nat → Int32) (gQ : Nat → Int32) (gZ : Nat → Int32) (gE : Int32) (gV : Nat → Int32) (gU : Nat → Int32) (gN : Nat → Int32) (a0 : Nat) (a1 : Int32) (a2 : Int32) (uq : ∀ b c : Nat, t b = t c → t b ≠ 0 → b = c) (k_a0 : t a0 = 3) : tM l yX4_hasNumber uvX4_hasNumber 1 22 D (rF cI cL cC gC gP gT gR gm gs gg gL gQ gZ gE gV gU gN) (rF cI cL cC gC gP gT gR gm gs gg gL gQ gZ gE gV gU gN) t cI cL cC [.ref a0, .int a1, .int a2] wr0 (pI (fun r => (r = 1 ∧ 0 ≤ a1.toInt ∧ a1.toInt ≤ 39 ∧ 0 ≤ a2.toInt ∧ a2.toInt ≤ 2) ∨ (r = 0))) := by
  refine tM.ofW (cc := cX4_hasNumber) (maxL := 3) (ret := (some .boolean)) (by decide) rfl (Nat.le_of_ble_eq_true rfl) ?_
  intro p e s m below meth c hx hb hr hml hown hts hlk H locs hG hK hE hS ls hl
  have hl : lv_has ls 3 [(0, .ref a0), (1, .int a1), (2, .int a2)] := hl
  skip
  refine lv_iload_n hx hb dX4_hasNumber_0 rfl (lv_at hl 2 rfl) ?_
  refine lv_if_lt (tgt := 21) hx hb dX4_hasNumber_1 (by decide) (fun c_1 => ?_) (fun c_1 => ?_)
  · skip
    have c_1 : a2.toInt < 0 := q_lt c_1
    refine lv_iconst (v := 0) hx hb dX4_hasNumber_21 (by decide) ?_
    have zi_0 : (0 : Int32).toInt = 0 := by decide
    exact ty_zret hx hb hr hlk rfl hG hS (Or.inr rfl) dX4_hasNumber_22
  · skip
    have c_1 : 0 ≤ a2.toInt := q_nlt c_1
    refine lv_iload_n hx hb dX4_hasNumber_4 rfl (lv_at hl 2 rfl) ?_
    refine lv_aload_n hx hb dX4_hasNumber_5 rfl (lv_at hl 0 rfl) ?_
    refine lv_iload_n hx hb dX4_hasNumber_6 rfl (lv_at hl 1 rfl) ?_
    refine lv_pc (pc2 := 7) rfl ?_
    refine lv_iconst (v := 0) hx hb dX4_hasNumber_7 (by decide) ?_
    have zi_0 : (0 : Int32).toInt = 0 := by decide
    obtain ⟨r_2, r_4, r_6, at_8, h_3, h_5, h_7⟩ := rF_o3 hG k_a0
    refine ty_calli (W.runV (As := [.int a1, .int 0]) (rest := [.int a2]) ⟨hx, hb, hml, hown, hts⟩ (v_X4_cell l D t cI cL cC gC gP gT gR gm gs gg gL gQ gZ gE gV gU gN a0 a1 0 0 uq (by decide) k_a0) (cwV 2 hts gu_vX4_hasNumber_vX4_cell_73 rfl rfl rfl (by decide +kernel) ⟨Nat.le_of_ble_eq_true rfl, Nat.le_of_ble_eq_true rfl⟩) (tP_V hG hE at_8 rfl) rfl rfl hl.1 rfl (lv_room (Nat.le_of_ble_eq_true rfl)) dX4_hasNumber_8 ⟨Nat.le_of_ble_eq_true rfl, Nat.le_of_ble_eq_true rfl⟩) hS (fun _ h => h) (fun r_9 H locs hp_10 hG hS o_11 => ?_)
    have at_8 := va_at.keptC at_8 o_11 k_a0 rfl
    have hp_10 : cellQ gL a1.toInt 0 r_9 := hp_10
    have p_13 := hp_10
    refine ty_calli (W.runS (As := [.int r_9]) (rest := [.int a2]) ⟨hx, hb, hml, hown, hts⟩ (a_X2_numbersOf l D t cI cL cC (rF cI cL cC gC gP gT gR gm gs gg gL gQ gZ gE gV gU gN) r_9 r_9.toInt (by omega) ) (va_cwS 1 hts gu_vX4_hasNumber_aX2_numbersOf_86 rfl rfl rfl (by decide +kernel) ⟨Nat.le_of_ble_eq_true rfl, Nat.le_of_ble_eq_true rfl⟩) (tP_S hG hE) rfl rfl hl.1 rfl (lv_room (Nat.le_of_ble_eq_true rfl)) dX4_hasNumber_11 ⟨Nat.le_of_ble_eq_true rfl, Nat.le_of_ble_eq_true rfl⟩) hS (fun _ h => h) (fun r_14 H locs hp_15 hG hS o_16 => ?_)
    have at_8 := va_at.keptC at_8 o_16 k_a0 rfl
    have hp_15 : r_14.toInt = nbO r_9.toInt := hp_15
    have p_18 := hp_15
    refine lv_icmp_ge (tgt := 21) hx hb dX4_hasNumber_14 (by decide) (fun c_19 => ?_) (fun c_19 => ?_)
    · skip
      have c_19 : r_14.toInt ≤ a2.toInt := q_le c_19
      refine lv_iconst (v := 0) hx hb dX4_hasNumber_21 (by decide) ?_
      exact ty_zret hx hb hr hlk rfl hG hS (Or.inr rfl) dX4_hasNumber_22
    · skip
      have c_19 : a2.toInt < r_14.toInt := q_nle c_19
      refine lv_iconst (v := 1) hx hb dX4_hasNumber_17 (by decide) ?_
      refine lv_goto (tgt := 22) hx hb dX4_hasNumber_18 (by decide) ?_
      refine lv_pc (pc2 := 22) rfl ?_
      have zi_1 : (1 : Int32).toInt = 1 := by decide
      exact ty_zret hx hb hr hlk rfl hG hS (Or.inl ⟨rfl, (by show 0 ≤ a1.toInt; have := hasN.in p_13 p_18 (j := a2.toInt) (by omega) (by omega); omega), (by show a1.toInt ≤ 39; have := hasN.in p_13 p_18 (j := a2.toInt) (by omega) (by omega); omega), (by show 0 ≤ a2.toInt; omega), (by show a2.toInt ≤ 2; have := hasN.in p_13 p_18 (j := a2.toInt) (by omega) (by omega); omega)⟩) dX4_hasNumber_22

def uvX4_isItemAsTold : List Cond := .code yX4_isItemAsTold cX4_isItemAsTold 2 (some .boolean) :: ([.methodLink RX4 73 yX4_cell, .instanceMethod yX4_cell, .selects RX4 yX4_cell yX4_cell, .initialized RX4, .methodLink RX4 77 yX2_areNumbersAsTold, .static yX2_areNumbersAsTold, .initialized RX2, .code yX4_cell cX4_cell 3 (some .int), .fieldLink RX4 9 "RiverModel$Model" "cells" "[I", .code yX2_areNumbersAsTold cX2_areNumbersAsTold 4 (some .boolean), .methodLink RX2 10 yX2_isUpTo, .static yX2_isUpTo, .constant RX2 9 (1000000), .code yX2_isUpTo cX2_isUpTo 2 (some .boolean)] ++ wsX40)
set_option maxRecDepth 20000 in
theorem gu_vX4_isItemAsTold_vX4_cell_73 : GoodIn uvX4_isItemAsTold (wsV RX4 73 RX4 yX4_cell uvX4_cell) := goodIn_r _ [1, 2, 3, 4, 8, 9, 15, 16, 17, 18, 19, 20] rfl (by decide +kernel)
set_option maxRecDepth 20000 in
theorem gu_vX4_isItemAsTold_aX2_areNumbersAsTold_77 : GoodIn uvX4_isItemAsTold (va_wsS RX4 77 yX2_areNumbersAsTold uaX2_areNumbersAsTold) := goodIn_r _ [5, 6, 7, 10, 11, 12, 7, 13, 14] rfl (by decide +kernel)
set_option maxHeartbeats 4000000 in
set_option maxRecDepth 100000 in
theorem v_X4_isItemAsTold (l : Launch) (D : va_G) (t : Nat → Nat) (cI cL cC : ClassId) (gC : Int32) (gP : Int32) (gT : Nat → Int32) (gR : Nat → Int32) (gm : Int32) (gs : Int32) (gg : Int32) (gL : Nat → Int32) (gQ : Nat → Int32) (gZ : Nat → Int32) (gE : Int32) (gV : Nat → Int32) (gU : Nat → Int32) (gN : Nat → Int32) (a0 : Nat) (a1 : Int32) (uq : ∀ b c : Nat, t b = t c → t b ≠ 0 → b = c) (k_a0 : t a0 = 3) : tM l yX4_isItemAsTold uvX4_isItemAsTold 2 44 D (rF cI cL cC gC gP gT gR gm gs gg gL gQ gZ gE gV gU gN) (rF cI cL cC gC gP gT gR gm gs gg gL gQ gZ gE gV gU gN) t cI cL cC [.ref a0, .int a1] wr0 (pI (fun r => (r = 1) ∨ (r = 0))) := by
  refine tM.ofW (cc := cX4_isItemAsTold) (maxL := 2) (ret := (some .boolean)) (by decide) rfl (Nat.le_of_ble_eq_true rfl) ?_
  intro p e s m below meth c hx hb hr hml hown hts hlk H locs hG hK hE hS ls hl
  have hl : lv_has ls 2 [(0, .ref a0), (1, .int a1)] := hl
  skip
  refine lv_aload_n hx hb dX4_isItemAsTold_0 rfl (lv_at hl 0 rfl) ?_
  refine lv_iload_n hx hb dX4_isItemAsTold_1 rfl (lv_at hl 1 rfl) ?_
  refine lv_iconst (v := 0) hx hb dX4_isItemAsTold_2 (by decide) ?_
  have zi_0 : (0 : Int32).toInt = 0 := by decide
  obtain ⟨r_1, r_3, r_5, at_7, h_2, h_4, h_6⟩ := rF_o3 hG k_a0
  refine ty_calli (W.runV (As := [.int a1, .int 0]) (rest := []) ⟨hx, hb, hml, hown, hts⟩ (v_X4_cell l D t cI cL cC gC gP gT gR gm gs gg gL gQ gZ gE gV gU gN a0 a1 0 0 uq (by decide) k_a0) (cwV 2 hts gu_vX4_isItemAsTold_vX4_cell_73 rfl rfl rfl (by decide +kernel) ⟨Nat.le_of_ble_eq_true rfl, Nat.le_of_ble_eq_true rfl⟩) (tP_V hG hE at_7 rfl) rfl rfl hl.1 rfl (lv_room (Nat.le_of_ble_eq_true rfl)) dX4_isItemAsTold_3 ⟨Nat.le_of_ble_eq_true rfl, Nat.le_of_ble_eq_true rfl⟩) hS (fun _ h => h) (fun r_8 H locs hp_9 hG hS o_10 => ?_)
  have at_7 := va_at.keptC at_7 o_10 k_a0 rfl
  have hp_9 : cellQ gL a1.toInt 0 r_8 := hp_9
  have p_12 := hp_9
  refine lv_aload_n hx hb dX4_isItemAsTold_6 rfl (lv_at hl 0 rfl) ?_
  refine lv_iload_n hx hb dX4_isItemAsTold_7 rfl (lv_at hl 1 rfl) ?_
  refine lv_iconst (v := 3) hx hb dX4_isItemAsTold_8 (by decide) ?_
  refine lv_pc (pc2 := 9) rfl ?_
  have zi_3 : (3 : Int32).toInt = 3 := by decide
  refine ty_calli (W.runV (As := [.int a1, .int 3]) (rest := [.int r_8]) ⟨hx, hb, hml, hown, hts⟩ (v_X4_cell l D t cI cL cC gC gP gT gR gm gs gg gL gQ gZ gE gV gU gN a0 a1 3 3 uq (by decide) k_a0) (cwV 2 hts gu_vX4_isItemAsTold_vX4_cell_73 rfl rfl rfl (by decide +kernel) ⟨Nat.le_of_ble_eq_true rfl, Nat.le_of_ble_eq_true rfl⟩) (tP_V hG hE at_7 rfl) rfl rfl hl.1 rfl (lv_room (Nat.le_of_ble_eq_true rfl)) dX4_isItemAsTold_9 ⟨Nat.le_of_ble_eq_true rfl, Nat.le_of_ble_eq_true rfl⟩) hS (fun _ h => h) (fun r_13 H locs hp_14 hG hS o_15 => ?_)
  have at_7 := va_at.keptC at_7 o_15 k_a0 rfl
  have hp_14 : cellQ gL a1.toInt 3 r_13 := hp_14
  have p_17 := hp_14
  refine lv_aload_n hx hb dX4_isItemAsTold_12 rfl (lv_at hl 0 rfl) ?_
  refine lv_iload_n hx hb dX4_isItemAsTold_13 rfl (lv_at hl 1 rfl) ?_
  refine lv_iconst (v := 4) hx hb dX4_isItemAsTold_14 (by decide) ?_
  have zi_4 : (4 : Int32).toInt = 4 := by decide
  refine ty_calli (W.runV (As := [.int a1, .int 4]) (rest := [.int r_13, .int r_8]) ⟨hx, hb, hml, hown, hts⟩ (v_X4_cell l D t cI cL cC gC gP gT gR gm gs gg gL gQ gZ gE gV gU gN a0 a1 4 4 uq (by decide) k_a0) (cwV 2 hts gu_vX4_isItemAsTold_vX4_cell_73 rfl rfl rfl (by decide +kernel) ⟨Nat.le_of_ble_eq_true rfl, Nat.le_of_ble_eq_true rfl⟩) (tP_V hG hE at_7 rfl) rfl rfl hl.1 rfl (lv_room (Nat.le_of_ble_eq_true rfl)) dX4_isItemAsTold_15 ⟨Nat.le_of_ble_eq_true rfl, Nat.le_of_ble_eq_true rfl⟩) hS (fun _ h => h) (fun r_18 H locs hp_19 hG hS o_20 => ?_)
  have at_7 := va_at.keptC at_7 o_20 k_a0 rfl
  have hp_19 : cellQ gL a1.toInt 4 r_18 := hp_19
  have p_22 := hp_19
  refine lv_aload_n hx hb dX4_isItemAsTold_18 rfl (lv_at hl 0 rfl) ?_
  refine lv_iload_n hx hb dX4_isItemAsTold_19 rfl (lv_at hl 1 rfl) ?_
  refine lv_iconst (v := 5) hx hb dX4_isItemAsTold_20 (by decide) ?_
  refine lv_pc (pc2 := 21) rfl ?_
  have zi_5 : (5 : Int32).toInt = 5 := by decide
  refine ty_calli (W.runV (As := [.int a1, .int 5]) (rest := [.int r_18, .int r_13, .int r_8]) ⟨hx, hb, hml, hown, hts⟩ (v_X4_cell l D t cI cL cC gC gP gT gR gm gs gg gL gQ gZ gE gV gU gN a0 a1 5 5 uq (by decide) k_a0) (cwV 2 hts gu_vX4_isItemAsTold_vX4_cell_73 rfl rfl rfl (by decide +kernel) ⟨Nat.le_of_ble_eq_true rfl, Nat.le_of_ble_eq_true rfl⟩) (tP_V hG hE at_7 rfl) rfl rfl hl.1 rfl (lv_room (Nat.le_of_ble_eq_true rfl)) dX4_isItemAsTold_21 ⟨Nat.le_of_ble_eq_true rfl, Nat.le_of_ble_eq_true rfl⟩) hS (fun _ h => h) (fun r_23 H locs hp_24 hG hS o_25 => ?_)
  have at_7 := va_at.keptC at_7 o_25 k_a0 rfl
  have hp_24 : cellQ gL a1.toInt 5 r_23 := hp_24
  have p_27 := hp_24
  refine ty_calli (W.runS (As := [.int r_8, .int r_13, .int r_18, .int r_23]) (rest := []) ⟨hx, hb, hml, hown, hts⟩ (a_X2_areNumbersAsTold l D t cI cL cC (rF cI cL cC gC gP gT gR gm gs gg gL gQ gZ gE gV gU gN) r_8 r_13 r_18 r_23   ) (va_cwS 4 hts gu_vX4_isItemAsTold_aX2_areNumbersAsTold_77 rfl rfl rfl (by decide +kernel) ⟨Nat.le_of_ble_eq_true rfl, Nat.le_of_ble_eq_true rfl⟩) (tP_S hG hE) rfl rfl hl.1 rfl (lv_room (Nat.le_of_ble_eq_true rfl)) dX4_isItemAsTold_24 ⟨Nat.le_of_ble_eq_true rfl, Nat.le_of_ble_eq_true rfl⟩) hS (fun _ h => h) (fun r_28 H locs hp_29 hG hS o_30 => ?_)
  have at_7 := va_at.keptC at_7 o_30 k_a0 rfl
  have hp_29 : (r_28 = 1 ∧ well r_8.toInt r_13 r_18 r_23) ∨ (r_28 = 0 ∧ ¬ well r_8.toInt r_13 r_18 r_23) := hp_29
  rcases hp_29 with ⟨rfl, p_32⟩ | ⟨rfl, p_33⟩
  · skip
    have zi_1 : (1 : Int32).toInt = 1 := by decide
    exact ty_zret hx hb hr hlk rfl hG hS (Or.inl rfl) dX4_isItemAsTold_27
  · skip
    exact ty_zret hx hb hr hlk rfl hG hS (Or.inr rfl) dX4_isItemAsTold_27

def uvX3_lay : List Cond := .code yX3_lay cX3_lay 4 (some .boolean) :: ([.methodLink RX3 37 yX3_isSet, .instanceMethod yX3_isSet, .selects RX3 yX3_isSet yX3_isSet, .initialized RX3, .fieldLink RX3 9 "RiverModel$Knobs" "items" "[I", .methodLink RX3 63 yX4_isItemAsTold, .instanceMethod yX4_isItemAsTold, .selects RX4 yX4_isItemAsTold yX4_isItemAsTold, .initialized RX4, .fieldLink RX3 15 "RiverModel$Knobs" "numbers" "[I", .methodLink RX3 50 yX4_hasNumber, .instanceMethod yX4_hasNumber, .selects RX4 yX4_hasNumber yX4_hasNumber, .methodLink RX3 56 yX3_numberAt, .instanceMethod yX3_numberAt, .selects RX3 yX3_numberAt yX3_numberAt, .methodLink RX3 59 yX4_putCell, .instanceMethod yX4_putCell, .selects RX4 yX4_putCell yX4_putCell, .code yX3_isSet cX3_isSet 2 (some .boolean), .fieldLink RX3 24 "RiverModel$Knobs" "manys" "[I", .code yX4_isItemAsTold cX4_isItemAsTold 2 (some .boolean), .methodLink RX4 73 yX4_cell, .instanceMethod yX4_cell, .selects RX4 yX4_cell yX4_cell, .methodLink RX4 77 yX2_areNumbersAsTold, .static yX2_areNumbersAsTold, .initialized RX2, .code yX4_cell cX4_cell 3 (some .int), .fieldLink RX4 9 "RiverModel$Model" "cells" "[I", .code yX2_areNumbersAsTold cX2_areNumbersAsTold 4 (some .boolean), .methodLink RX2 10 yX2_isUpTo, .static yX2_isUpTo, .constant RX2 9 (1000000), .code yX2_isUpTo cX2_isUpTo 2 (some .boolean), .code yX4_hasNumber cX4_hasNumber 3 (some .boolean), .methodLink RX4 86 yX2_numbersOf, .static yX2_numbersOf, .code yX2_numbersOf cX2_numbersOf 1 (some .int), .code yX3_numberAt cX3_numberAt 4 (some .int), .initialized RX9, .static yX9_isNoKnob, .methodLink RX3 40 yX3_pointsOf, .instanceMethod yX3_pointsOf, .selects RX3 yX3_pointsOf yX3_pointsOf, .methodLink RX3 44 Lib.Math.max.name, .static Lib.Math.max.name, .initialized "java/lang/Math", .code Lib.Math.max.name Lib.Math.max.code 2 (some .int), .fieldLink RX3 18 "RiverModel$Knobs" "froms" "[I", .fieldLink RX3 21 "RiverModel$Knobs" "steps" "[I", .code yX9_isNoKnob cX9_isNoKnob 1 (some .boolean), .code yX3_pointsOf cX3_pointsOf 2 (some .int), .code yX4_putCell cX4_putCell 4 none, .static yX9_isNoItem, .static yX9_isOutside, .code yX9_isNoItem cX9_isNoItem 1 (some .boolean), .code yX9_isOutside cX9_isOutside 3 (some .boolean)] ++ wsX30 ++ wsX40)
set_option maxRecDepth 20000 in
theorem gu_vX3_lay_vX3_isSet_37 : GoodIn uvX3_lay (wsV RX3 37 RX3 yX3_isSet uvX3_isSet) := goodIn_r _ [1, 2, 3, 4, 20, 21, 59, 60, 61, 62, 63] rfl (by decide +kernel)
set_option maxRecDepth 20000 in
theorem gu_vX3_lay_vX4_isItemAsTold_63 : GoodIn uvX3_lay (wsV RX3 63 RX4 yX4_isItemAsTold uvX4_isItemAsTold) := goodIn_r _ [6, 7, 8, 9, 22, 23, 24, 25, 9, 26, 27, 28, 29, 30, 31, 32, 33, 34, 35, 64, 65, 66, 67, 68, 69] rfl (by decide +kernel)
set_option maxRecDepth 20000 in
theorem gu_vX3_lay_vX4_hasNumber_50 : GoodIn uvX3_lay (wsV RX3 50 RX4 yX4_hasNumber uvX4_hasNumber) := goodIn_r _ [11, 12, 13, 9, 36, 23, 24, 25, 9, 37, 38, 28, 29, 30, 39, 64, 65, 66, 67, 68, 69] rfl (by decide +kernel)
set_option maxRecDepth 20000 in
theorem gu_vX3_lay_vX3_numberAt_56 : GoodIn uvX3_lay (wsV RX3 56 RX3 yX3_numberAt uvX3_numberAt) := goodIn_r _ [14, 15, 16, 4, 40, 41, 42, 43, 44, 45, 4, 46, 47, 48, 49, 50, 51, 52, 53, 1, 2, 3, 21, 20, 59, 60, 61, 62, 63] rfl (by decide +kernel)
set_option maxRecDepth 20000 in
theorem gu_vX3_lay_vX4_putCell_59 : GoodIn uvX3_lay (wsV RX3 59 RX4 yX4_putCell uvX4_putCell) := goodIn_r _ [17, 18, 19, 9, 54, 41, 55, 56, 30, 57, 58, 64, 65, 66, 67, 68, 69] rfl (by decide +kernel)
set_option maxHeartbeats 4000000 in
set_option maxRecDepth 100000 in
theorem v_X3_lay (l : Launch) (D : va_G) (t : Nat → Nat) (cI cL cC : ClassId) (gC : Int32) (gP : Int32) (gT : Nat → Int32) (gR : Nat → Int32) (gm : Int32) (gs : Int32) (gg : Int32) (gL : Nat → Int32) (gQ : Nat → Int32) (gZ : Nat → Int32) (gE : Int32) (gV : Nat → Int32) (gU : Nat → Int32) (gN : Nat → Int32) (a0 : Nat) (a1 : Int32) (a2 : Nat) (uq : ∀ b c : Nat, t b = t c → t b ≠ 0 → b = c) (k_a0 : t a0 = 7) (k_a2 : t a2 = 3) : tMx (Z := (Nat → Int32)) l yX3_lay uvX3_lay 3 65 D (rF cI cL cC gC gP gT gR gm gs gg gL gQ gZ gE gV gU gN) (fun z => (rF cI cL cC gC gP gT gR gm gs gg z gQ gZ gE gV gU gN)) t cI cL cC [.ref a0, .int a1, .ref a2] vL (xI (fun r (z : (Nat → Int32)) => (r = 1 ∧ smK gL z) ∨ (r = 0 ∧ smK gL z))) := by
  refine tMx.ofW (cc := cX3_lay) (maxL := 4) (ret := (some .boolean)) (by decide) rfl (Nat.le_of_ble_eq_true rfl) ?_
  intro p e s m below meth c hx hb hr hml hown hts hlk H locs hG hK hE hS ls hl
  have hl : lv_has ls 4 [(0, .ref a0), (1, .int a1), (2, .ref a2)] := hl
  have in3 : ∀ w ∈ wsX30, w ∈ uvX3_lay := fun w h => List.mem_cons_of_mem _ (List.mem_append_left _ (List.mem_append_right _ h))
  refine lv_iconst (v := 0) hx hb dX3_lay_0 (by decide) ?_
  refine lv_istore_n (lv' := [(3, .int 0), (0, .ref a0), (1, .int a1), (2, .ref a2)]) hx hb dX3_lay_1 rfl hl (by decide) rfl (fun ls hl => ?_)
  refine lv_pc (pc2 := 2) rfl ?_
  refine lp_gen (fun WW1 hWW1 => ?_)
  have kx1 : ∀ (yk : Int32) (l1 : Nat → Int32) (H1 : Heap) (locs1 : List Loc) (ls1 : Array Slot), (0 ≤ yk.toInt) → (yk.toInt ≤ 2) → (smK gL l1) → tG D (rF cI cL cC gC gP gT gR gm gs gg l1 gQ gZ gE gV gU gN) t H1 → tF t vL s.heap H1 locs1 → lv_has ls1 4 [(3, .int yk), (0, .ref a0), (1, .int a1), (2, .ref a2)] → WW1 H1 locs1 (F0 m 66 ls1 []) := by
    intro yk l1 H locs ls v1_0 v1_1 v1_2 hG hS hl
    refine (hWW1 _ _ _).mpr ?_
    refine lv_iconst (v := 0) hx hb dX3_lay_66 (by decide) ?_
    refine lv_istore_n (lv' := [(3, .int 0), (0, .ref a0), (1, .int a1), (2, .ref a2)]) hx hb dX3_lay_67 rfl hl (by decide) rfl (fun ls hl => ?_)
    refine lv_pc (pc2 := 68) rfl ?_
    refine lp_gen (fun WW2 hWW2 => ?_)
    have kx2 : ∀ (yj : Int32) (H1 : Heap) (locs1 : List Loc) (ls1 : Array Slot), (0 ≤ yj.toInt) → (yj.toInt ≤ 2) → tG D (rF cI cL cC gC gP gT gR gm gs gg l1 gQ gZ gE gV gU gN) t H1 → tF t vL s.heap H1 locs1 → lv_has ls1 4 [(3, .int yj), (0, .ref a0), (1, .int a1), (2, .ref a2)] → WW2 H1 locs1 (F0 m 102 ls1 []) := by
      intro yj H locs ls v2_0 v2_1 hG hS hl
      refine (hWW2 _ _ _).mpr ?_
      refine lv_iconst (v := 1) hx hb dX3_lay_102 (by decide) ?_
      have zi_1 : (1 : Int32).toInt = 1 := by decide
      exact tx_zret (z := (l1)) hx hb hr hlk rfl hG hS (Or.inl ⟨rfl, (show smK gL l1 from v1_2)⟩) dX3_lay_103
    have lp2 : ∀ (kk2 : Nat) (yj : Int32) (H1 : Heap) (locs1 : List Loc) (ls1 : Array Slot), 2 - yj.toInt ≤ (kk2 : Int) → (0 ≤ yj.toInt) → (yj.toInt ≤ 2) → tG D (rF cI cL cC gC gP gT gR gm gs gg l1 gQ gZ gE gV gU gN) t H1 → tF t vL s.heap H1 locs1 → lv_has ls1 4 [(3, .int yj), (0, .ref a0), (1, .int a1), (2, .ref a2)] → WW2 H1 locs1 (F0 m 68 ls1 []) := by
      intro kk2
      induction kk2 with
      | zero =>
        intro yj H locs ls hk2 v2_0 v2_1 hG hS hl
        refine (hWW2 _ _ _).mpr ?_
        refine lv_iload_n hx hb dX3_lay_68 rfl (lv_at hl 0 rfl) ?_
        refine lv_pc (pc2 := 69) rfl ?_
        refine lv_iconst (v := 2) hx hb dX3_lay_69 (by decide) ?_
        refine lv_icmp_ge (tgt := 102) hx hb dX3_lay_70 (by decide) (fun c_3 => ?_) (fun c_3 => ?_)
        · skip
          have c_3 : 2 ≤ yj.toInt := q_le c_3
          exact (hWW2 _ _ _).mp (kx2 yj H locs ls v2_0 v2_1 hG hS (lv_sub hl [0, 1, 2, 3] rfl))
        · skip
          have c_3 : yj.toInt < 2 := q_nle c_3
          exfalso; omega
      | succ kk2 ih2 =>
        intro yj H locs ls hk2 v2_0 v2_1 hG hS hl
        refine (hWW2 _ _ _).mpr ?_
        refine lv_iload_n hx hb dX3_lay_68 rfl (lv_at hl 0 rfl) ?_
        refine lv_iconst (v := 2) hx hb dX3_lay_69 (by decide) ?_
        refine lv_icmp_ge (tgt := 102) hx hb dX3_lay_70 (by decide) (fun c_4 => ?_) (fun c_4 => ?_)
        · skip
          have c_4 : 2 ≤ yj.toInt := q_le c_4
          exact (hWW2 _ _ _).mp (kx2 yj H locs ls v2_0 v2_1 hG hS (lv_sub hl [0, 1, 2, 3] rfl))
        · skip
          have c_4 : yj.toInt < 2 := q_nle c_4
          refine lv_aload_n hx hb dX3_lay_73 rfl (lv_at hl 1 rfl) ?_
          refine lv_iload_n hx hb dX3_lay_74 rfl (lv_at hl 0 rfl) ?_
          obtain ⟨r_5, r_7, r_9, r_11, r_13, at_15, h_6, h_8, h_10, h_12, h_14⟩ := rF_o7 hG k_a0
          refine ty_calli (W.runV (As := [.int yj]) (rest := []) ⟨hx, hb, hml, hown, hts⟩ (v_X3_isSet l D t cI cL cC gC gP gT gR gm gs gg l1 gQ gZ gE gV gU gN a0 yj  uq  k_a0) (cwV 1 hts gu_vX3_lay_vX3_isSet_37 rfl rfl rfl (by decide +kernel) ⟨Nat.le_of_ble_eq_true rfl, Nat.le_of_ble_eq_true rfl⟩) (tP_V hG hE at_15 rfl) rfl rfl hl.1 rfl (lv_room (Nat.le_of_ble_eq_true rfl)) dX3_lay_75 ⟨Nat.le_of_ble_eq_true rfl, Nat.le_of_ble_eq_true rfl⟩) hS (fun k h => by simp [wr0] at h) (fun r_16 H locs hp_17 hG hS o_18 => ?_)
          have at_15 := va_at.keptC at_15 o_18 k_a0 rfl
          have hp_17 : (r_16 = 1 ∧ 0 ≤ yj.toInt ∧ yj.toInt ≤ 1) ∨ (r_16 = 0) := hp_17
          rcases hp_17 with ⟨rfl, p_20, p_21⟩ | rfl
          · skip
            refine lv_pc (pc2 := 78) rfl ?_
            refine lv_if_eq (tgt := 96) hx hb dX3_lay_78 (by decide) (fun q => absurd q (by decide)) (fun _ => ?_)
            refine lv_aload_n hx hb dX3_lay_81 rfl (lv_at hl 3 rfl) ?_
            refine lv_aload_n hx hb dX3_lay_82 rfl (lv_at hl 1 rfl) ?_
            refine va_get (D := D) (ci := 2) (v := .ref r_5) (C := RX3) (T := TX3) (N := 5) hx hb hts in3 hown hK (va_one at_15) 0 rfl rfl 0 (by decide) (hts (.fieldLink RX3 9 "RiverModel$Knobs" "items" "[I") (List.mem_of_getElem? (i := 5) rfl)) (fun _ h9 => h9) rfl dX3_lay_83 ?_
            refine lv_iload_n hx hb dX3_lay_86 rfl (lv_at hl 0 rfl) ?_
            obtain ⟨f_22, at_23⟩ := rF_o24 hG h_6
            have b_24 : vp_in yj 2 := (q_in (by omega) (by omega))
            refine va_iald hx hb hK (va_one at_23) 0 0 rfl rfl b_24 dX3_lay_87 ?_
            refine lv_topi (fun x_25 e_26 => ?_)
            obtain ⟨r_27, r_29, r_31, at_33, h_28, h_30, h_32⟩ := rF_o3 hG k_a2
            refine ty_calli (W.runV (As := [.int x_25]) (rest := []) ⟨hx, hb, hml, hown, hts⟩ (v_X4_isItemAsTold l D t cI cL cC gC gP gT gR gm gs gg l1 gQ gZ gE gV gU gN a2 x_25  uq  k_a2) (cwV 1 hts gu_vX3_lay_vX4_isItemAsTold_63 rfl rfl rfl (by decide +kernel) ⟨Nat.le_of_ble_eq_true rfl, Nat.le_of_ble_eq_true rfl⟩) (tP_V hG hE at_33 rfl) rfl rfl hl.1 rfl (lv_room (Nat.le_of_ble_eq_true rfl)) dX3_lay_88 ⟨Nat.le_of_ble_eq_true rfl, Nat.le_of_ble_eq_true rfl⟩) hS (fun k h => by simp [wr0] at h) (fun r_34 H locs hp_35 hG hS o_36 => ?_)
            have at_15 := va_at.keptC at_15 o_36 k_a0 rfl
            have at_23 := va_at.keptC at_23 o_36 h_6 rfl
            have at_33 := va_at.keptC at_33 o_36 k_a2 rfl
            have hp_35 : (r_34 = 1) ∨ (r_34 = 0) := hp_35
            rcases hp_35 with rfl | rfl
            · skip
              refine lv_if_ne (tgt := 96) hx hb dX3_lay_91 (by decide) (fun _ => ?_) (fun q => absurd q (by decide))
              refine lv_pc (pc2 := 96) rfl ?_
              obtain ⟨x_38, e_39⟩ : ∃ y : Int32, y = yj + Int32.ofInt 1 := ⟨_, rfl⟩
              have i_x_38 : x_38.toInt = yj.toInt + 1 := by rw [e_39, show Int32.ofInt 1 = 1 by decide]; exact (q_add (by rw [show (1 : Int32).toInt = 1 by decide]; omega) (by rw [show (1 : Int32).toInt = 1 by decide]; omega)).trans (by rw [show (1 : Int32).toInt = 1 by decide])
              refine lv_iinc (v := x_38) (lv' := [(3, .int x_38), (0, .ref a0), (1, .int a1), (2, .ref a2)]) hx hb dX3_lay_96 hl (k := 0) rfl e_39.symm (by decide) rfl (fun ls hl => ?_)
              refine lv_goto (tgt := 68) hx hb dX3_lay_99 (by decide) ?_
              exact (hWW2 _ _ _).mp (ih2 x_38 H locs ls (by omega) (by omega) (by omega) hG hS (lv_sub hl [0, 1, 2, 3] rfl))
            · skip
              refine lv_if_ne (tgt := 96) hx hb dX3_lay_91 (by decide) (fun q => absurd rfl q) (fun _ => ?_)
              refine lv_iconst (v := 0) hx hb dX3_lay_94 (by decide) ?_
              have zi_0 : (0 : Int32).toInt = 0 := by decide
              exact tx_zret (z := (l1)) hx hb hr hlk rfl hG hS (Or.inr ⟨rfl, (show smK gL l1 from v1_2)⟩) dX3_lay_95
          · skip
            refine lv_if_eq (tgt := 96) hx hb dX3_lay_78 (by decide) (fun _ => ?_) (fun q => absurd (by decide) q)
            obtain ⟨x_40, e_41⟩ : ∃ y : Int32, y = yj + Int32.ofInt 1 := ⟨_, rfl⟩
            have i_x_40 : x_40.toInt = yj.toInt + 1 := by rw [e_41, show Int32.ofInt 1 = 1 by decide]; exact (q_add (by rw [show (1 : Int32).toInt = 1 by decide]; omega) (by rw [show (1 : Int32).toInt = 1 by decide]; omega)).trans (by rw [show (1 : Int32).toInt = 1 by decide])
            refine lv_iinc (v := x_40) (lv' := [(3, .int x_40), (0, .ref a0), (1, .int a1), (2, .ref a2)]) hx hb dX3_lay_96 hl (k := 0) rfl e_41.symm (by decide) rfl (fun ls hl => ?_)
            refine lv_goto (tgt := 68) hx hb dX3_lay_99 (by decide) ?_
            exact (hWW2 _ _ _).mp (ih2 x_40 H locs ls (by omega) (by omega) (by omega) hG hS (lv_sub hl [0, 1, 2, 3] rfl))
    have zi_0 : (0 : Int32).toInt = 0 := by decide
    exact lp2 (2 - (0 : Int32).toInt : Int).toNat 0 H locs ls (by omega) (by omega) (by omega) hG hS (lv_sub hl [0, 1, 2, 3] rfl)
  have lp1 : ∀ (kk1 : Nat) (yk : Int32) (l1 : Nat → Int32) (H1 : Heap) (locs1 : List Loc) (ls1 : Array Slot), 2 - yk.toInt ≤ (kk1 : Int) → (0 ≤ yk.toInt) → (yk.toInt ≤ 2) → (smK gL l1) → tG D (rF cI cL cC gC gP gT gR gm gs gg l1 gQ gZ gE gV gU gN) t H1 → tF t vL s.heap H1 locs1 → lv_has ls1 4 [(3, .int yk), (0, .ref a0), (1, .int a1), (2, .ref a2)] → WW1 H1 locs1 (F0 m 2 ls1 []) := by
    intro kk1
    induction kk1 with
    | zero =>
      intro yk l1 H locs ls hk1 v1_0 v1_1 v1_2 hG hS hl
      refine (hWW1 _ _ _).mpr ?_
      refine lv_pc (pc2 := 2) rfl ?_
      refine lv_iload_n hx hb dX3_lay_2 rfl (lv_at hl 0 rfl) ?_
      refine lv_iconst (v := 2) hx hb dX3_lay_3 (by decide) ?_
      refine lv_icmp_ge (tgt := 66) hx hb dX3_lay_4 (by decide) (fun c_42 => ?_) (fun c_42 => ?_)
      · skip
        have c_42 : 2 ≤ yk.toInt := q_le c_42
        exact (hWW1 _ _ _).mp (kx1 yk l1 H locs ls v1_0 v1_1 v1_2 hG hS (lv_sub hl [0, 1, 2, 3] rfl))
      · skip
        have c_42 : yk.toInt < 2 := q_nle c_42
        exfalso; omega
    | succ kk1 ih1 =>
      intro yk l1 H locs ls hk1 v1_0 v1_1 v1_2 hG hS hl
      refine (hWW1 _ _ _).mpr ?_
      refine lv_iload_n hx hb dX3_lay_2 rfl (lv_at hl 0 rfl) ?_
      refine lv_iconst (v := 2) hx hb dX3_lay_3 (by decide) ?_
      refine lv_icmp_ge (tgt := 66) hx hb dX3_lay_4 (by decide) (fun c_43 => ?_) (fun c_43 => ?_)
      · skip
        have c_43 : 2 ≤ yk.toInt := q_le c_43
        exact (hWW1 _ _ _).mp (kx1 yk l1 H locs ls v1_0 v1_1 v1_2 hG hS (lv_sub hl [0, 1, 2, 3] rfl))
      · skip
        have c_43 : yk.toInt < 2 := q_nle c_43
        refine lv_aload_n hx hb dX3_lay_7 rfl (lv_at hl 1 rfl) ?_
        refine lv_iload_n hx hb dX3_lay_8 rfl (lv_at hl 0 rfl) ?_
        refine lv_pc (pc2 := 9) rfl ?_
        obtain ⟨r_44, r_46, r_48, r_50, r_52, at_54, h_45, h_47, h_49, h_51, h_53⟩ := rF_o7 hG k_a0
        refine ty_calli (W.runV (As := [.int yk]) (rest := []) ⟨hx, hb, hml, hown, hts⟩ (v_X3_isSet l D t cI cL cC gC gP gT gR gm gs gg l1 gQ gZ gE gV gU gN a0 yk  uq  k_a0) (cwV 1 hts gu_vX3_lay_vX3_isSet_37 rfl rfl rfl (by decide +kernel) ⟨Nat.le_of_ble_eq_true rfl, Nat.le_of_ble_eq_true rfl⟩) (tP_V hG hE at_54 rfl) rfl rfl hl.1 rfl (lv_room (Nat.le_of_ble_eq_true rfl)) dX3_lay_9 ⟨Nat.le_of_ble_eq_true rfl, Nat.le_of_ble_eq_true rfl⟩) hS (fun k h => by simp [wr0] at h) (fun r_55 H locs hp_56 hG hS o_57 => ?_)
        have at_54 := va_at.keptC at_54 o_57 k_a0 rfl
        have hp_56 : (r_55 = 1 ∧ 0 ≤ yk.toInt ∧ yk.toInt ≤ 1) ∨ (r_55 = 0) := hp_56
        rcases hp_56 with ⟨rfl, p_59, p_60⟩ | rfl
        · skip
          refine lv_if_eq (tgt := 60) hx hb dX3_lay_12 (by decide) (fun q => absurd q (by decide)) (fun _ => ?_)
          refine lv_aload_n hx hb dX3_lay_15 rfl (lv_at hl 3 rfl) ?_
          refine lv_aload_n hx hb dX3_lay_16 rfl (lv_at hl 1 rfl) ?_
          refine va_get (D := D) (ci := 2) (v := .ref r_44) (C := RX3) (T := TX3) (N := 5) hx hb hts in3 hown hK (va_one at_54) 0 rfl rfl 0 (by decide) (hts (.fieldLink RX3 9 "RiverModel$Knobs" "items" "[I") (List.mem_of_getElem? (i := 5) rfl)) (fun _ h9 => h9) rfl dX3_lay_17 ?_
          refine lv_iload_n hx hb dX3_lay_20 rfl (lv_at hl 0 rfl) ?_
          obtain ⟨f_61, at_62⟩ := rF_o24 hG h_45
          have b_63 : vp_in yk 2 := (q_in (by omega) (by omega))
          refine va_iald hx hb hK (va_one at_62) 0 0 rfl rfl b_63 dX3_lay_21 ?_
          refine lv_topi (fun x_64 e_65 => ?_)
          refine lv_aload_n hx hb dX3_lay_22 rfl (lv_at hl 1 rfl) ?_
          refine lv_pc (pc2 := 23) rfl ?_
          refine va_get (D := D) (ci := 2) (v := .ref r_46) (C := RX3) (T := TX3) (N := 5) hx hb hts in3 hown hK (va_one at_54) 0 rfl rfl 1 (by decide) (hts (.fieldLink RX3 15 "RiverModel$Knobs" "numbers" "[I") (List.mem_of_getElem? (i := 10) rfl)) (fun _ h9 => h9) rfl dX3_lay_23 ?_
          refine lv_iload_n hx hb dX3_lay_26 rfl (lv_at hl 0 rfl) ?_
          obtain ⟨f_66, at_67⟩ := rF_o25 hG h_47
          have b_68 : vp_in yk 2 := (q_in (by omega) (by omega))
          refine va_iald hx hb hK (va_one at_67) 0 0 rfl rfl b_68 dX3_lay_27 ?_
          refine lv_topi (fun x_69 e_70 => ?_)
          obtain ⟨r_71, r_73, r_75, at_77, h_72, h_74, h_76⟩ := rF_o3 hG k_a2
          refine ty_calli (W.runV (As := [.int x_64, .int x_69]) (rest := []) ⟨hx, hb, hml, hown, hts⟩ (v_X4_hasNumber l D t cI cL cC gC gP gT gR gm gs gg l1 gQ gZ gE gV gU gN a2 x_64 x_69  uq  k_a2) (cwV 2 hts gu_vX3_lay_vX4_hasNumber_50 rfl rfl rfl (by decide +kernel) ⟨Nat.le_of_ble_eq_true rfl, Nat.le_of_ble_eq_true rfl⟩) (tP_V hG hE at_77 rfl) rfl rfl hl.1 rfl (lv_room (Nat.le_of_ble_eq_true rfl)) dX3_lay_28 ⟨Nat.le_of_ble_eq_true rfl, Nat.le_of_ble_eq_true rfl⟩) hS (fun k h => by simp [wr0] at h) (fun r_78 H locs hp_79 hG hS o_80 => ?_)
          have at_54 := va_at.keptC at_54 o_80 k_a0 rfl
          have at_62 := va_at.keptC at_62 o_80 h_45 rfl
          have at_67 := va_at.keptC at_67 o_80 h_47 rfl
          have at_77 := va_at.keptC at_77 o_80 k_a2 rfl
          have hp_79 : (r_78 = 1 ∧ 0 ≤ x_64.toInt ∧ x_64.toInt ≤ 39 ∧ 0 ≤ x_69.toInt ∧ x_69.toInt ≤ 2) ∨ (r_78 = 0) := hp_79
          rcases hp_79 with ⟨rfl, p_82, p_83, p_84, p_85⟩ | rfl
          · skip
            refine lv_if_ne (tgt := 36) hx hb dX3_lay_31 (by decide) (fun _ => ?_) (fun q => absurd q (by decide))
            refine lv_aload_n hx hb dX3_lay_36 rfl (lv_at hl 3 rfl) ?_
            refine lv_aload_n hx hb dX3_lay_37 rfl (lv_at hl 1 rfl) ?_
            refine va_get (D := D) (ci := 2) (v := .ref r_44) (C := RX3) (T := TX3) (N := 5) hx hb hts in3 hown hK (va_one at_54) 0 rfl rfl 0 (by decide) (hts (.fieldLink RX3 9 "RiverModel$Knobs" "items" "[I") (List.mem_of_getElem? (i := 5) rfl)) (fun _ h9 => h9) rfl dX3_lay_38 ?_
            refine lv_pc (pc2 := 41) rfl ?_
            refine lv_iload_n hx hb dX3_lay_41 rfl (lv_at hl 0 rfl) ?_
            have b_86 : vp_in yk 2 := (q_in (by omega) (by omega))
            refine va_iald hx hb hK (va_one at_62) 0 0 rfl rfl b_86 dX3_lay_42 ?_
            refine lv_seti (y := x_64) e_65.symm ?_
            refine lv_iconst (v := 3) hx hb dX3_lay_43 (by decide) ?_
            refine lv_aload_n hx hb dX3_lay_44 rfl (lv_at hl 1 rfl) ?_
            refine va_get (D := D) (ci := 2) (v := .ref r_46) (C := RX3) (T := TX3) (N := 5) hx hb hts in3 hown hK (va_one at_54) 0 rfl rfl 1 (by decide) (hts (.fieldLink RX3 15 "RiverModel$Knobs" "numbers" "[I") (List.mem_of_getElem? (i := 10) rfl)) (fun _ h9 => h9) rfl dX3_lay_45 ?_
            refine lv_iload_n hx hb dX3_lay_48 rfl (lv_at hl 0 rfl) ?_
            have b_87 : vp_in yk 2 := (q_in (by omega) (by omega))
            refine va_iald hx hb hK (va_one at_67) 0 0 rfl rfl b_87 dX3_lay_49 ?_
            refine lv_seti (y := x_69) e_70.symm ?_
            refine lv_iadd hx hb dX3_lay_50 ?_
            refine lv_topi (fun x_88 e_89 => ?_)
            have i_x_88 : x_88.toInt = 3 + x_69.toInt := by rw [e_89]; exact (q_add (by rw [show (3 : Int32).toInt = 3 by decide]; omega) (by rw [show (3 : Int32).toInt = 3 by decide]; omega)).trans (by rw [show (3 : Int32).toInt = 3 by decide])
            refine lv_pc (pc2 := 51) rfl ?_
            refine lv_aload_n hx hb dX3_lay_51 rfl (lv_at hl 1 rfl) ?_
            refine lv_iload_n hx hb dX3_lay_52 rfl (lv_at hl 0 rfl) ?_
            refine lv_iload_n hx hb dX3_lay_53 rfl (lv_at hl 2 rfl) ?_
            refine ty_calli (W.runV (As := [.int yk, .int a1]) (rest := [.int x_88, .int x_64, .ref a2]) ⟨hx, hb, hml, hown, hts⟩ (v_X3_numberAt l D t cI cL cC gC gP gT gR gm gs gg l1 gQ gZ gE gV gU gN a0 yk a1  uq  k_a0) (cwV 2 hts gu_vX3_lay_vX3_numberAt_56 rfl rfl rfl (by decide +kernel) ⟨Nat.le_of_ble_eq_true rfl, Nat.le_of_ble_eq_true rfl⟩) (tP_V hG hE at_54 rfl) rfl rfl hl.1 rfl (lv_room (Nat.le_of_ble_eq_true rfl)) dX3_lay_54 ⟨Nat.le_of_ble_eq_true rfl, Nat.le_of_ble_eq_true rfl⟩) hS (fun k h => by simp [wr0] at h) (fun r_90 H locs hp_91 hG hS o_92 => ?_)
            have at_54 := va_at.keptC at_54 o_92 k_a0 rfl
            have at_62 := va_at.keptC at_62 o_92 h_45 rfl
            have at_67 := va_at.keptC at_67 o_92 h_47 rfl
            have at_77 := va_at.keptC at_77 o_92 k_a2 rfl
            refine tx_callv (W.runV (As := [.int x_64, .int x_88, .int r_90]) (rest := []) ⟨hx, hb, hml, hown, hts⟩ (v_X4_putCell l D t cI cL cC gC gP gT gR gm gs gg l1 gQ gZ gE gV gU gN a2 x_64 x_88 r_90  uq (by omega) (by omega) (by omega) (by omega) k_a2) (cwV 3 hts gu_vX3_lay_vX4_putCell_59 rfl rfl rfl (by decide +kernel) ⟨Nat.le_of_ble_eq_true rfl, Nat.le_of_ble_eq_true rfl⟩) (tP_V hG hE at_77 rfl) rfl rfl hl.1 rfl (lv_room (Nat.le_of_ble_eq_true rfl)) dX3_lay_57 ⟨Nat.le_of_ble_eq_true rfl, Nat.le_of_ble_eq_true rfl⟩) hS (fun _ h => h) (fun gL_98 H locs hp_95 hG hS o_96 => ?_)
            have at_54 := va_at.keptC at_54 o_96 k_a0 rfl
            have at_62 := va_at.keptC at_62 o_96 h_45 rfl
            have at_67 := va_at.keptC at_67 o_96 h_47 rfl
            have at_77 := va_at.keptC at_77 o_96 k_a2 rfl
            replace hG : tG D (rF cI cL cC gC gP gT gR gm gs gg gL_98 gQ gZ gE gV gU gN) t H := hG
            have hp_95 : gL_98 = upd l1 (6 * x_64.toInt + x_88.toInt).toNat r_90 := hp_95
            have p_99 := hp_95
            obtain ⟨x_100, e_101⟩ : ∃ y : Int32, y = yk + Int32.ofInt 1 := ⟨_, rfl⟩
            have i_x_100 : x_100.toInt = yk.toInt + 1 := by rw [e_101, show Int32.ofInt 1 = 1 by decide]; exact (q_add (by rw [show (1 : Int32).toInt = 1 by decide]; omega) (by rw [show (1 : Int32).toInt = 1 by decide]; omega)).trans (by rw [show (1 : Int32).toInt = 1 by decide])
            refine lv_iinc (v := x_100) (lv' := [(3, .int x_100), (0, .ref a0), (1, .int a1), (2, .ref a2)]) hx hb dX3_lay_60 hl (k := 0) rfl e_101.symm (by decide) rfl (fun ls hl => ?_)
            refine lv_goto (tgt := 2) hx hb dX3_lay_63 (by decide) ?_
            exact (hWW1 _ _ _).mp (ih1 x_100 gL_98 H locs ls (by omega) (by omega) (by omega) (smK.upd v1_2 p_99 (by omega) (by omega) (by omega) (by omega)) hG hS (lv_sub hl [0, 1, 2, 3] rfl))
          · skip
            refine lv_if_ne (tgt := 36) hx hb dX3_lay_31 (by decide) (fun q => absurd rfl q) (fun _ => ?_)
            refine lv_pc (pc2 := 34) rfl ?_
            refine lv_iconst (v := 0) hx hb dX3_lay_34 (by decide) ?_
            have zi_0 : (0 : Int32).toInt = 0 := by decide
            exact tx_zret (z := (l1)) hx hb hr hlk rfl hG hS (Or.inr ⟨rfl, (show smK gL l1 from v1_2)⟩) dX3_lay_35
        · skip
          refine lv_if_eq (tgt := 60) hx hb dX3_lay_12 (by decide) (fun _ => ?_) (fun q => absurd (by decide) q)
          obtain ⟨x_102, e_103⟩ : ∃ y : Int32, y = yk + Int32.ofInt 1 := ⟨_, rfl⟩
          have i_x_102 : x_102.toInt = yk.toInt + 1 := by rw [e_103, show Int32.ofInt 1 = 1 by decide]; exact (q_add (by rw [show (1 : Int32).toInt = 1 by decide]; omega) (by rw [show (1 : Int32).toInt = 1 by decide]; omega)).trans (by rw [show (1 : Int32).toInt = 1 by decide])
          refine lv_iinc (v := x_102) (lv' := [(3, .int x_102), (0, .ref a0), (1, .int a1), (2, .ref a2)]) hx hb dX3_lay_60 hl (k := 0) rfl e_103.symm (by decide) rfl (fun ls hl => ?_)
          refine lv_goto (tgt := 2) hx hb dX3_lay_63 (by decide) ?_
          exact (hWW1 _ _ _).mp (ih1 x_102 l1 H locs ls (by omega) (by omega) (by omega) v1_2 hG hS (lv_sub hl [0, 1, 2, 3] rfl))
  have zi_0 : (0 : Int32).toInt = 0 := by decide
  exact lp1 (2 - (0 : Int32).toInt : Int).toNat 0 gL H locs ls (by omega) (by omega) (by omega) smK.rf hG hS (lv_sub hl [0, 1, 2, 3] rfl)
