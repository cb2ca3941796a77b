theorem dX10_booked_0 : decode cX10_booked 0 = .ok (.iload_n 1, 1) := by decide +kernel
theorem dX10_booked_1 : decode cX10_booked 1 = .ok (.i2l, 1) := by decide +kernel
theorem dX10_booked_2 : decode cX10_booked 2 = .ok (.lconst 0, 1) := by decide +kernel
theorem dX10_booked_3 : decode cX10_booked 3 = .ok (.ldc2_w 243, 3) := by decide +kernel
theorem dX10_booked_6 : decode cX10_booked 6 = .ok (.invokestatic 85, 3) := by decide +kernel
theorem dX10_booked_9 : decode cX10_booked 9 = .ok (.ifCond .eq 12, 3) := by decide +kernel
theorem dX10_booked_12 : decode cX10_booked 12 = .ok (.aload_n 0, 1) := by decide +kernel
theorem dX10_booked_13 : decode cX10_booked 13 = .ok (.getfield 68, 3) := by decide +kernel
theorem dX10_booked_16 : decode cX10_booked 16 = .ok (.iload_n 1, 1) := by decide +kernel
theorem dX10_booked_17 : decode cX10_booked 17 = .ok (.iaload, 1) := by decide +kernel
theorem dX10_booked_18 : decode cX10_booked 18 = .ok (.goto 4, 3) := by decide +kernel
theorem dX10_booked_21 : decode cX10_booked 21 = .ok (.iconst (-1), 1) := by decide +kernel
theorem dX10_booked_22 : decode cX10_booked 22 = .ok (.ireturn, 1) := by decide +kernel
theorem dX10_peak_0 : decode cX10_peak 0 = .ok (.iload_n 1, 1) := by decide +kernel
theorem dX10_peak_1 : decode cX10_peak 1 = .ok (.i2l, 1) := by decide +kernel
theorem dX10_peak_2 : decode cX10_peak 2 = .ok (.lconst 0, 1) := by decide +kernel
theorem dX10_peak_3 : decode cX10_peak 3 = .ok (.ldc2_w 243, 3) := by decide +kernel
theorem dX10_peak_6 : decode cX10_peak 6 = .ok (.invokestatic 85, 3) := by decide +kernel
theorem dX10_peak_9 : decode cX10_peak 9 = .ok (.ifCond .eq 29, 3) := by decide +kernel
theorem dX10_peak_12 : decode cX10_peak 12 = .ok (.iload_n 2, 1) := by decide +kernel
theorem dX10_peak_13 : decode cX10_peak 13 = .ok (.i2l, 1) := by decide +kernel
theorem dX10_peak_14 : decode cX10_peak 14 = .ok (.lconst 1, 1) := by decide +kernel
theorem dX10_peak_15 : decode cX10_peak 15 = .ok (.ldc2_w 295, 3) := by decide +kernel
theorem dX10_peak_18 : decode cX10_peak 18 = .ok (.invokestatic 85, 3) := by decide +kernel
theorem dX10_peak_21 : decode cX10_peak 21 = .ok (.ifCond .eq 17, 3) := by decide +kernel
theorem dX10_peak_24 : decode cX10_peak 24 = .ok (.iload_n 3, 1) := by decide +kernel
theorem dX10_peak_25 : decode cX10_peak 25 = .ok (.i2l, 1) := by decide +kernel
theorem dX10_peak_26 : decode cX10_peak 26 = .ok (.ldc2_w 236, 3) := by decide +kernel
theorem dX10_peak_29 : decode cX10_peak 29 = .ok (.ldc2_w 243, 3) := by decide +kernel
theorem dX10_peak_32 : decode cX10_peak 32 = .ok (.invokestatic 85, 3) := by decide +kernel
theorem dX10_peak_35 : decode cX10_peak 35 = .ok (.ifCond .ne 7, 3) := by decide +kernel
theorem dX10_peak_38 : decode cX10_peak 38 = .ok (.ldc2_w 236, 3) := by decide +kernel
theorem dX10_peak_41 : decode cX10_peak 41 = .ok (.lreturn, 1) := by decide +kernel
theorem dX10_peak_42 : decode cX10_peak 42 = .ok (.aload_n 0, 1) := by decide +kernel
theorem dX10_peak_43 : decode cX10_peak 43 = .ok (.iload_n 1, 1) := by decide +kernel
theorem dX10_peak_44 : decode cX10_peak 44 = .ok (.iload_n 2, 1) := by decide +kernel
theorem dX10_peak_45 : decode cX10_peak 45 = .ok (.invokevirtual 297, 3) := by decide +kernel
theorem dX10_peak_48 : decode cX10_peak 48 = .ok (.ifCond .eq 13, 3) := by decide +kernel
theorem dX10_peak_51 : decode cX10_peak 51 = .ok (.aload_n 0, 1) := by decide +kernel
theorem dX10_peak_52 : decode cX10_peak 52 = .ok (.iload_n 1, 1) := by decide +kernel
theorem dX10_peak_53 : decode cX10_peak 53 = .ok (.iload_n 2, 1) := by decide +kernel
theorem dX10_peak_54 : decode cX10_peak 54 = .ok (.iload_n 3, 1) := by decide +kernel
theorem dX10_peak_55 : decode cX10_peak 55 = .ok (.invokevirtual 291, 3) := by decide +kernel
theorem dX10_peak_58 : decode cX10_peak 58 = .ok (.goto 6, 3) := by decide +kernel
theorem dX10_peak_61 : decode cX10_peak 61 = .ok (.ldc2_w 238, 3) := by decide +kernel
theorem dX10_peak_64 : decode cX10_peak 64 = .ok (.lreturn, 1) := by decide +kernel
def uX10_booked : List Cond := .code yX10_booked cX10_booked 2 (some .int) :: ([.constantLong RX10 243 (3), .methodLink RX10 85 yX10_in, .static yX10_in, .initialized RX10, .fieldLink RX10 68 "RiverModelModel" "booked" "[I", .code yX10_in cX10_in 6 (some .boolean)] ++ wsX100)
set_option maxRecDepth 20000 in
theorem gu_X10_booked_X10_in_85 : GoodIn uX10_booked (va_wsS RX10 85 yX10_in uX10_in) := goodIn_r _ [2, 3, 4, 6] rfl (by decide +kernel)
set_option maxHeartbeats 4000000 in
set_option maxRecDepth 100000 in
theorem m_X10_booked (l : Launch) (D : va_G) (t : Nat → Nat) (cI cL cC : ClassId) (gC : Int32) (gE : Int32) (gW : Nat → Int32) (gA : Nat → Int32) (gT : Nat → Int32) (gI : Int32) (gS : Int32) (gM : Int32) (K : Nat → Int32) (F : Nat → Int32) (S : Nat → Int32) (N : Nat → Int32) (gH : Int) (gJ : Int) (ge : Int32) (gk : Int32) (gf : Int32) (gs : Int32) (gg : Int32) (gr : Int32) (RN : Nat → Int32) (a0 : Nat) (a1 : Int32) (uq : ∀ b c : Nat, t b = t c → t b ≠ 0 → b = c) (hC0 : 0 ≤ gC.toInt) (hC4 : gC.toInt ≤ 400) (hI0 : 0 ≤ gI.toInt) (hI4 : gI.toInt ≤ 40) (hH0 : 0 ≤ gH) (hH9 : gH ≤ 96) (hm0 : 0 ≤ gM.toInt) (hm3 : gM.toInt ≤ 3) (hO0 : okM K F S N 0 gI.toInt) (hW : swM gS K F S N gI.toInt) (k_a0 : t a0 = 40) : tM l yX10_booked uX10_booked 1 25 D (mF cI cL cC gC gE gW gA gT gI gS gM K F S N gH gJ ge gk gf gs gg gr RN) (mF cI cL cC gC gE gW gA gT gI gS gM K F S N gH gJ ge gk gf gs gg gr RN) t cI cL cC [.ref a0, .int a1] wr0 (pI (fun r => True)) := by
  refine tM.ofW (cc := cX10_booked) (maxL := 2) (ret := (some .int)) (by decide) rfl (Nat.le_of_ble_eq_true rfl) ?_
  intro p e s m below meth c hx hb hr hml hown hts hlk H locs hG hK hE hS ls hl
  have hl : lv_has ls 2 [(0, .ref a0), (1, .int a1)] := hl
  have in10 : ∀ w ∈ wsX100, w ∈ uX10_booked := fun w h => List.mem_cons_of_mem _ (List.mem_append_right _ h)
  refine lv_iload_n hx hb dX10_booked_0 rfl (lv_at hl 1 rfl) ?_
  refine lv_i2l (v := a1.toInt64) hx hb dX10_booked_1 rfl ?_
  refine lv_lconst (v := 0) hx hb dX10_booked_2 (by decide) ?_
  refine lv_ldc2 hx hb hown (hts (.constantLong RX10 243 (3)) (List.mem_of_getElem? (i := 1) rfl)) dX10_booked_3 ?_
  have zl_0 : (0 : Int64).toInt = 0 := by decide
  have zl_3 : (3 : Int64).toInt = 3 := by decide
  refine ty_calli (W.runS (As := [.long a1.toInt64, .long 0, .long 3]) (rest := []) ⟨hx, hb, hml, hown, hts⟩ (m_X10_in l D t cI cL cC gC gE gW gA gT gI gS gM K F S N gH gJ ge gk gf gs gg gr RN a1.toInt64 0 3 a1.toInt 0 3 uq (q_i2l _) (by decide) (by decide) ) (va_cwS 3 hts gu_X10_booked_X10_in_85 rfl rfl rfl (by decide +kernel) ⟨Nat.le_of_ble_eq_true rfl, Nat.le_of_ble_eq_true rfl⟩) (tP_S hG hE) rfl rfl hl.1 rfl (lv_room (Nat.le_of_ble_eq_true rfl)) dX10_booked_6 ⟨Nat.le_of_ble_eq_true rfl, Nat.le_of_ble_eq_true rfl⟩) hS (fun _ h => h) (fun r_1 H locs hp_2 hG hS o_3 => ?_)
  have hp_2 : (r_1 = 1 ∧ 0 ≤ a1.toInt ∧ a1.toInt ≤ 3) ∨ (r_1 = 0 ∧ (a1.toInt < 0 ∨ 3 < a1.toInt)) := hp_2
  rcases hp_2 with ⟨rfl, p_5, p_6⟩ | ⟨rfl, p_7⟩
  · skip
    refine lv_if_eq (tgt := 21) hx hb dX10_booked_9 (by decide) (fun q => absurd q (by decide)) (fun _ => ?_)
    refine lv_aload_n hx hb dX10_booked_12 rfl (lv_at hl 0 rfl) ?_
    refine lv_pc (pc2 := 13) rfl ?_
    obtain ⟨r_8, v_10, r_11, r_13, r_15, r_17, r_19, r_21, r_23, r_25, r_27, r_29, r_31, r_33, r_35, r_37, r_39, r_41, r_43, r_45, r_47, r_49, r_51, v_53, r_54, at_56, h_9, h_12, h_14, h_16, h_18, h_20, h_22, h_24, h_26, h_28, h_30, h_32, h_34, h_36, h_38, h_40, h_42, h_44, h_46, h_48, h_50, h_52, h_55⟩ := mF_o40 hG k_a0
    refine va_get (D := D) (ci := 9) (v := .ref r_47) (C := RX10) (T := TX10) (N := 36) hx hb hts in10 hown hK (va_one at_56) 0 rfl rfl 25 (by decide) (hts (.fieldLink RX10 68 "RiverModelModel" "booked" "[I") (List.mem_of_getElem? (i := 5) rfl)) (fun _ h9 => h9) rfl dX10_booked_13 ?_
    refine lv_iload_n hx hb dX10_booked_16 rfl (lv_at hl 1 rfl) ?_
    obtain ⟨f_57, at_58⟩ := mF_o60 hG h_48
    have b_59 : vp_in a1 4 := (q_in (by omega) (by omega))
    refine va_iald hx hb hK (va_one at_58) 0 0 rfl rfl b_59 dX10_booked_17 ?_
    refine lv_topi (fun x_60 e_61 => ?_)
    refine lv_goto (tgt := 22) hx hb dX10_booked_18 (by decide) ?_
    exact ty_iret hx hb hr hlk hG hS True.intro dX10_booked_22
  · skip
    refine lv_if_eq (tgt := 21) hx hb dX10_booked_9 (by decide) (fun _ => ?_) (fun q => absurd (by decide) q)
    refine lv_iconst (v := (-1)) hx hb dX10_booked_21 (by decide) ?_
    have zi_m1 : ((-1) : Int32).toInt = (-1) := by decide
    exact ty_iret hx hb hr hlk hG hS True.intro dX10_booked_22

def uX10_peak : List Cond := .code yX10_peak cX10_peak 4 (some .long) :: ([.constantLong RX10 243 (3), .methodLink RX10 85 yX10_in, .static yX10_in, .initialized RX10, .constantLong RX10 295 (24), .constantLong RX10 236 (-1), .methodLink RX10 297 yX10_canSee, .instanceMethod yX10_canSee, .selects RX10 yX10_canSee yX10_canSee, .methodLink RX10 291 yX10_peakBy, .instanceMethod yX10_peakBy, .selects RX10 yX10_peakBy yX10_peakBy, .constantLong RX10 238 (-2), .code yX10_in cX10_in 6 (some .boolean), .code yX10_canSee cX10_canSee 3 (some .boolean), .methodLink RX10 248 yX10_isSet, .instanceMethod yX10_isSet, .selects RX10 yX10_isSet yX10_isSet, .fieldLink RX10 28 "RiverModelModel" "m" "[J", .constantLong RX10 229 (96), .code yX10_isSet cX10_isSet 2 (some .boolean), .fieldLink RX10 173 "RiverModelModel" "isBuilt" "Z", .fieldLink RX10 38 "RiverModelModel" "gaugeKind" "[I", .code yX10_peakBy cX10_peakBy 9 (some .long), .methodLink RX10 274 yX10_asides, .instanceMethod yX10_asides, .selects RX10 yX10_asides yX10_asides, .methodLink RX10 277 yX10_returns, .instanceMethod yX10_returns, .selects RX10 yX10_returns yX10_returns, .fieldLink RX10 65 "RiverModelModel" "ahead" "[I", .fieldLink RX10 25 "RiverModelModel" "weather" "[I", .methodLink RX10 225 yX10_passes, .instanceMethod yX10_passes, .selects RX10 yX10_passes yX10_passes, .methodLink RX10 251 yX10_reading, .instanceMethod yX10_reading, .selects RX10 yX10_reading yX10_reading, .code yX10_asides cX10_asides 2 none, .fieldLink RX10 32 "RiverModelModel" "aside" "[J", .code yX10_returns cX10_returns 2 none, .code yX10_passes cX10_passes 12 none, .fieldLink RX10 163 "RiverModelModel" "items" "I", .fieldLink RX10 13 "RiverModelModel" "kind" "[I", .methodLink RX10 221 yX10_moves, .instanceMethod yX10_moves, .selects RX10 yX10_moves yX10_moves, .fieldLink RX10 16 "RiverModelModel" "first" "[I", .fieldLink RX10 19 "RiverModelModel" "second" "[I", .fieldLink RX10 22 "RiverModelModel" "number" "[I", .code yX10_moves cX10_moves 8 (some .long), .constantLong RX10 219 (10), .methodLink RX10 215 yX10_most, .instanceMethod yX10_most, .selects RX10 yX10_most yX10_most, .constantLong RX10 107 (100), .methodLink RX10 211 yX10_capacity, .instanceMethod yX10_capacity, .selects RX10 yX10_capacity yX10_capacity, .code yX10_most cX10_most 4 (some .long), .code yX10_capacity cX10_capacity 3 (some .long), .methodLink RX10 166 yX10_storeAt, .instanceMethod yX10_storeAt, .selects RX10 yX10_storeAt yX10_storeAt, .code yX10_storeAt cX10_storeAt 5 (some .int), .code yX10_reading cX10_reading 2 (some .long), .fieldLink RX10 41 "RiverModelModel" "gaugeAt" "[I"] ++ wsX100)
set_option maxRecDepth 20000 in
theorem gu_X10_peak_X10_in_85 : GoodIn uX10_peak (va_wsS RX10 85 yX10_in uX10_in) := goodIn_r _ [2, 3, 4, 14] rfl (by decide +kernel)
set_option maxRecDepth 20000 in
theorem gu_X10_peak_X10_canSee_297 : GoodIn uX10_peak (wsV RX10 297 RX10 yX10_canSee uX10_canSee) := goodIn_r _ [7, 8, 9, 4, 15, 16, 17, 18, 4, 19, 20, 21, 22, 23, 68, 69, 70, 71, 72, 73, 74, 75, 76, 77, 78, 79, 80, 81, 82, 83, 84, 85, 86, 87, 88, 89, 90, 91, 92, 93, 94, 95, 96, 97, 98, 99, 100, 101, 102, 103] rfl (by decide +kernel)
set_option maxRecDepth 20000 in
theorem gu_X10_peak_X10_peakBy_291 : GoodIn uX10_peak (wsV RX10 291 RX10 yX10_peakBy uX10_peakBy) := goodIn_r _ [10, 11, 12, 4, 24, 25, 26, 27, 4, 6, 28, 29, 30, 19, 31, 32, 33, 34, 35, 36, 37, 38, 39, 40, 41, 42, 43, 44, 45, 46, 47, 48, 49, 50, 51, 52, 53, 54, 55, 56, 57, 58, 59, 60, 61, 62, 63, 64, 65, 66, 23, 67, 68, 69, 70, 71, 72, 73, 74, 75, 76, 77, 78, 79, 80, 81, 82, 83, 84, 85, 86, 87, 88, 89, 90, 91, 92, 93, 94, 95, 96, 97, 98, 99, 100, 101, 102, 103] rfl (by decide +kernel)
set_option maxHeartbeats 4000000 in
set_option maxRecDepth 100000 in
theorem m_X10_peak (l : Launch) (D : va_G) (t : Nat → Nat) (cI cL cC : ClassId) (gC : Int32) (gE : Int32) (gW : Nat → Int32) (gA : Nat → Int32) (gT : Nat → Int32) (gI : Int32) (gS : Int32) (gM : Int32) (K : Nat → Int32) (F : Nat → Int32) (S : Nat → Int32) (N : Nat → Int32) (gH : Int) (gJ : Int) (ge : Int32) (gk : Int32) (gf : Int32) (gs : Int32) (gg : Int32) (gr : Int32) (RN : Nat → Int32) (a0 : Nat) (a1 : Int32) (a2 : Int32) (a3 : Int32) (uq : ∀ b c : Nat, t b = t c → t b ≠ 0 → b = c) (hC0 : 0 ≤ gC.toInt) (hC4 : gC.toInt ≤ 400) (hI0 : 0 ≤ gI.toInt) (hI4 : gI.toInt ≤ 40) (hH0 : 0 ≤ gH) (hH9 : gH ≤ 96) (hm0 : 0 ≤ gM.toInt) (hm3 : gM.toInt ≤ 3) (hO0 : okM K F S N 0 gI.toInt) (hW : swM gS K F S N gI.toInt) (k_a0 : t a0 = 40) : tMx (Z := (Int) × (Int)) l yX10_peak uX10_peak 5 132 D (mF cI cL cC gC gE gW gA gT gI gS gM K F S N gH gJ ge gk gf gs gg gr RN) (fun z => (mF cI cL cC gC gE gW gA gT gI gS gM K F S N z.1 z.2 ge gk gf gs gg gr RN)) t cI cL cC [.ref a0, .int a1, .int a2, .int a3] wmj (xL (fun r (z : (Int) × (Int)) => 0 ≤ z.1 ∧ z.1 ≤ 96)) := by
  refine tMx.ofW (cc := cX10_peak) (maxL := 4) (ret := (some .long)) (by decide) rfl (Nat.le_of_ble_eq_true rfl) ?_
  intro p e s m below meth c hx hb hr hml hown hts hlk H locs hG hK hE hS ls hl
  have hl : lv_has ls 4 [(0, .ref a0), (1, .int a1), (2, .int a2), (3, .int a3)] := hl
  skip
  refine lv_iload_n hx hb dX10_peak_0 rfl (lv_at hl 1 rfl) ?_
  refine lv_i2l (v := a1.toInt64) hx hb dX10_peak_1 rfl ?_
  refine lv_lconst (v := 0) hx hb dX10_peak_2 (by decide) ?_
  refine lv_ldc2 hx hb hown (hts (.constantLong RX10 243 (3)) (List.mem_of_getElem? (i := 1) rfl)) dX10_peak_3 ?_
  have zl_0 : (0 : Int64).toInt = 0 := by decide
  have zl_3 : (3 : Int64).toInt = 3 := by decide
  refine ty_calli (W.runS (As := [.long a1.toInt64, .long 0, .long 3]) (rest := []) ⟨hx, hb, hml, hown, hts⟩ (m_X10_in l D t cI cL cC gC gE gW gA gT gI gS gM K F S N gH gJ ge gk gf gs gg gr RN a1.toInt64 0 3 a1.toInt 0 3 uq (q_i2l _) (by decide) (by decide) ) (va_cwS 3 hts gu_X10_peak_X10_in_85 rfl rfl rfl (by decide +kernel) ⟨Nat.le_of_ble_eq_true rfl, Nat.le_of_ble_eq_true rfl⟩) (tP_S hG hE) rfl rfl hl.1 rfl (lv_room (Nat.le_of_ble_eq_true rfl)) dX10_peak_6 ⟨Nat.le_of_ble_eq_true rfl, Nat.le_of_ble_eq_true rfl⟩) hS (fun k h => by simp [wr0] at h) (fun r_1 H locs hp_2 hG hS o_3 => ?_)
  have hp_2 : (r_1 = 1 ∧ 0 ≤ a1.toInt ∧ a1.toInt ≤ 3) ∨ (r_1 = 0 ∧ (a1.toInt < 0 ∨ 3 < a1.toInt)) := hp_2
  rcases hp_2 with ⟨rfl, p_5, p_6⟩ | ⟨rfl, p_7⟩
  · skip
    refine lv_if_eq (tgt := 38) hx hb dX10_peak_9 (by decide) (fun q => absurd q (by decide)) (fun _ => ?_)
    refine lv_iload_n hx hb dX10_peak_12 rfl (lv_at hl 2 rfl) ?_
    refine lv_pc (pc2 := 13) rfl ?_
    refine lv_i2l (v := a2.toInt64) hx hb dX10_peak_13 rfl ?_
    refine lv_lconst (v := 1) hx hb dX10_peak_14 (by decide) ?_
    refine lv_ldc2 hx hb hown (hts (.constantLong RX10 295 (24)) (List.mem_of_getElem? (i := 5) rfl)) dX10_peak_15 ?_
    have zl_1 : (1 : Int64).toInt = 1 := by decide
    have zl_24 : (24 : Int64).toInt = 24 := by decide
    refine ty_calli (W.runS (As := [.long a2.toInt64, .long 1, .long 24]) (rest := []) ⟨hx, hb, hml, hown, hts⟩ (m_X10_in l D t cI cL cC gC gE gW gA gT gI gS gM K F S N gH gJ ge gk gf gs gg gr RN a2.toInt64 1 24 a2.toInt 1 24 uq (q_i2l _) (by decide) (by decide) ) (va_cwS 3 hts gu_X10_peak_X10_in_85 rfl rfl rfl (by decide +kernel) ⟨Nat.le_of_ble_eq_true rfl, Nat.le_of_ble_eq_true rfl⟩) (tP_S hG hE) rfl rfl hl.1 rfl (lv_room (Nat.le_of_ble_eq_true rfl)) dX10_peak_18 ⟨Nat.le_of_ble_eq_true rfl, Nat.le_of_ble_eq_true rfl⟩) hS (fun k h => by simp [wr0] at h) (fun r_8 H locs hp_9 hG hS o_10 => ?_)
    have hp_9 : (r_8 = 1 ∧ 1 ≤ a2.toInt ∧ a2.toInt ≤ 24) ∨ (r_8 = 0 ∧ (a2.toInt < 1 ∨ 24 < a2.toInt)) := hp_9
    rcases hp_9 with ⟨rfl, p_12, p_13⟩ | ⟨rfl, p_14⟩
    · skip
      refine lv_if_eq (tgt := 38) hx hb dX10_peak_21 (by decide) (fun q => absurd q (by decide)) (fun _ => ?_)
      refine lv_iload_n hx hb dX10_peak_24 rfl (lv_at hl 3 rfl) ?_
      refine lv_i2l (v := a3.toInt64) hx hb dX10_peak_25 rfl ?_
      refine lv_ldc2 hx hb hown (hts (.constantLong RX10 236 (-1)) (List.mem_of_getElem? (i := 6) rfl)) dX10_peak_26 ?_
      refine lv_pc (pc2 := 29) rfl ?_
      refine lv_ldc2 hx hb hown (hts (.constantLong RX10 243 (3)) (List.mem_of_getElem? (i := 1) rfl)) dX10_peak_29 ?_
      have zl_m1 : ((-1) : Int64).toInt = (-1) := by decide
      refine ty_calli (W.runS (As := [.long a3.toInt64, .long (-1), .long 3]) (rest := []) ⟨hx, hb, hml, hown, hts⟩ (m_X10_in l D t cI cL cC gC gE gW gA gT gI gS gM K F S N gH gJ ge gk gf gs gg gr RN a3.toInt64 (-1) 3 a3.toInt (-1) 3 uq (q_i2l _) (by decide) (by decide) ) (va_cwS 3 hts gu_X10_peak_X10_in_85 rfl rfl rfl (by decide +kernel) ⟨Nat.le_of_ble_eq_true rfl, Nat.le_of_ble_eq_true rfl⟩) (tP_S hG hE) rfl rfl hl.1 rfl (lv_room (Nat.le_of_ble_eq_true rfl)) dX10_peak_32 ⟨Nat.le_of_ble_eq_true rfl, Nat.le_of_ble_eq_true rfl⟩) hS (fun k h => by simp [wr0] at h) (fun r_15 H locs hp_16 hG hS o_17 => ?_)
      have hp_16 : (r_15 = 1 ∧ (-1) ≤ a3.toInt ∧ a3.toInt ≤ 3) ∨ (r_15 = 0 ∧ (a3.toInt < (-1) ∨ 3 < a3.toInt)) := hp_16
      rcases hp_16 with ⟨rfl, p_19, p_20⟩ | ⟨rfl, p_21⟩
      · skip
        refine lv_if_ne (tgt := 42) hx hb dX10_peak_35 (by decide) (fun _ => ?_) (fun q => absurd q (by decide))
        refine lv_aload_n hx hb dX10_peak_42 rfl (lv_at hl 0 rfl) ?_
        refine lv_iload_n hx hb dX10_peak_43 rfl (lv_at hl 1 rfl) ?_
        refine lv_iload_n hx hb dX10_peak_44 rfl (lv_at hl 2 rfl) ?_
        obtain ⟨r_22, v_24, r_25, r_27, r_29, r_31, r_33, r_35, r_37, r_39, r_41, r_43, r_45, r_47, r_49, r_51, r_53, r_55, r_57, r_59, r_61, r_63, r_65, v_67, r_68, at_70, h_23, h_26, h_28, h_30, h_32, h_34, h_36, h_38, h_40, h_42, h_44, h_46, h_48, h_50, h_52, h_54, h_56, h_58, h_60, h_62, h_64, h_66, h_69⟩ := mF_o40 hG k_a0
        refine ty_calli (W.runV (As := [.int a1, .int a2]) (rest := []) ⟨hx, hb, hml, hown, hts⟩ (m_X10_canSee l D t cI cL cC gC gE gW gA gT gI gS gM K F S N gH gJ ge gk gf gs gg gr RN a0 a1 a2  uq (by omega) (by omega) (by omega) (by omega) (by omega) (by omega) k_a0) (cwV 2 hts gu_X10_peak_X10_canSee_297 rfl rfl rfl (by decide +kernel) ⟨Nat.le_of_ble_eq_true rfl, Nat.le_of_ble_eq_true rfl⟩) (tP_V hG hE at_70 rfl) rfl rfl hl.1 rfl (lv_room (Nat.le_of_ble_eq_true rfl)) dX10_peak_45 ⟨Nat.le_of_ble_eq_true rfl, Nat.le_of_ble_eq_true rfl⟩) hS (fun k h => by simp [wr0] at h) (fun r_71 H locs hp_72 hG hS o_73 => ?_)
        have at_70 := va_at.keptC at_70 o_73 k_a0 rfl
        have hp_72 : (r_71 = 1 ∧ gH + a2.toInt ≤ 96) ∨ (r_71 = 0) := hp_72
        rcases hp_72 with ⟨rfl, p_75⟩ | rfl
        · skip
          refine lv_if_eq (tgt := 61) hx hb dX10_peak_48 (by decide) (fun q => absurd q (by decide)) (fun _ => ?_)
          refine lv_pc (pc2 := 51) rfl ?_
          refine lv_aload_n hx hb dX10_peak_51 rfl (lv_at hl 0 rfl) ?_
          refine lv_iload_n hx hb dX10_peak_52 rfl (lv_at hl 1 rfl) ?_
          refine lv_iload_n hx hb dX10_peak_53 rfl (lv_at hl 2 rfl) ?_
          refine lv_iload_n hx hb dX10_peak_54 rfl (lv_at hl 3 rfl) ?_
          refine tx_calll (W.runV (As := [.int a1, .int a2, .int a3]) (rest := []) ⟨hx, hb, hml, hown, hts⟩ (m_X10_peakBy l D t cI cL cC gC gE gW gA gT gI gS gM K F S N gH gJ ge gk gf gs gg gr RN a0 a1 a2 a3  uq (by omega) (by omega) (by omega) (by omega) hO0 (by omega) (by omega) (by omega) (by omega) (by omega) (by omega) (by omega) k_a0) (cwV 3 hts gu_X10_peak_X10_peakBy_291 rfl rfl rfl (by decide +kernel) ⟨Nat.le_of_ble_eq_true rfl, Nat.le_of_ble_eq_true rfl⟩) (tP_V hG hE at_70 rfl) rfl rfl hl.1 rfl (lv_room (Nat.le_of_ble_eq_true rfl)) dX10_peak_55 ⟨Nat.le_of_ble_eq_true rfl, Nat.le_of_ble_eq_true rfl⟩) hS (fun _ h => h) (fun z_76 zz_79 H locs hp_77 hG hS o_78 => ?_)
          obtain ⟨gH_80, gJ_81⟩ := zz_79
          have at_70 := va_at.keptC at_70 o_78 k_a0 rfl
          replace hG : tG D (mF cI cL cC gC gE gW gA gT gI gS gM K F S N gH_80 gJ_81 ge gk gf gs gg gr RN) t H := hG
          have hp_77 : gH_80 = gH := hp_77
          have p_82 := hp_77
          refine lv_goto (tgt := 64) hx hb dX10_peak_58 (by decide) ?_
          exact tx_lret (z := (gH_80, gJ_81)) hx hb hr hlk hG hS ⟨(by show 0 ≤ gH_80; omega), (by show gH_80 ≤ 96; omega)⟩ dX10_peak_64
        · skip
          refine lv_if_eq (tgt := 61) hx hb dX10_peak_48 (by decide) (fun _ => ?_) (fun q => absurd (by decide) q)
          refine lv_pc (pc2 := 61) rfl ?_
          refine lv_ldc2 hx hb hown (hts (.constantLong RX10 238 (-2)) (List.mem_of_getElem? (i := 13) rfl)) dX10_peak_61 ?_
          have zl_m2 : ((-2) : Int64).toInt = (-2) := by decide
          exact tx_lret (z := (gH, gJ)) hx hb hr hlk hG hS ⟨(by show 0 ≤ gH; omega), (by show gH ≤ 96; omega)⟩ dX10_peak_64
      · skip
        refine lv_if_ne (tgt := 42) hx hb dX10_peak_35 (by decide) (fun q => absurd rfl q) (fun _ => ?_)
        refine lv_ldc2 hx hb hown (hts (.constantLong RX10 236 (-1)) (List.mem_of_getElem? (i := 6) rfl)) dX10_peak_38 ?_
        exact tx_lret (z := (gH, gJ)) hx hb hr hlk hG hS ⟨(by show 0 ≤ gH; omega), (by show gH ≤ 96; omega)⟩ dX10_peak_41
    · skip
      refine lv_if_eq (tgt := 38) hx hb dX10_peak_21 (by decide) (fun _ => ?_) (fun q => absurd (by decide) q)
      refine lv_ldc2 hx hb hown (hts (.constantLong RX10 236 (-1)) (List.mem_of_getElem? (i := 6) rfl)) dX10_peak_38 ?_
      have zl_m1 : ((-1) : Int64).toInt = (-1) := by decide
      exact tx_lret (z := (gH, gJ)) hx hb hr hlk hG hS ⟨(by show 0 ≤ gH; omega), (by show gH ≤ 96; omega)⟩ dX10_peak_41
  · skip
    refine lv_pc (pc2 := 9) rfl ?_
    refine lv_if_eq (tgt := 38) hx hb dX10_peak_9 (by decide) (fun _ => ?_) (fun q => absurd (by decide) q)
    refine lv_ldc2 hx hb hown (hts (.constantLong RX10 236 (-1)) (List.mem_of_getElem? (i := 6) rfl)) dX10_peak_38 ?_
    have zl_m1 : ((-1) : Int64).toInt = (-1) := by decide
    exact tx_lret (z := (gH, gJ)) hx hb hr hlk hG hS ⟨(by show 0 ≤ gH; omega), (by show gH ≤ 96; omega)⟩ dX10_peak_41
