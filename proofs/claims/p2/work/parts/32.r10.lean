theorem dX10_fitsTo_0 : decode cX10_fitsTo 0 = .ok (.iconst 0, 1) := by decide +kernel
theorem dX10_fitsTo_1 : decode cX10_fitsTo 1 = .ok (.istore_n 2, 1) := by decide +kernel
theorem dX10_fitsTo_2 : decode cX10_fitsTo 2 = .ok (.aload_n 0, 1) := by decide +kernel
theorem dX10_fitsTo_3 : decode cX10_fitsTo 3 = .ok (.iconst 0, 1) := by decide +kernel
theorem dX10_fitsTo_4 : decode cX10_fitsTo 4 = .ok (.invokevirtual 265, 3) := by decide +kernel
theorem dX10_fitsTo_7 : decode cX10_fitsTo 7 = .ok (.aload_n 0, 1) := by decide +kernel
theorem dX10_fitsTo_8 : decode cX10_fitsTo 8 = .ok (.iconst 1, 1) := by decide +kernel
theorem dX10_fitsTo_9 : decode cX10_fitsTo 9 = .ok (.invokevirtual 265, 3) := by decide +kernel
theorem dX10_fitsTo_12 : decode cX10_fitsTo 12 = .ok (.imul, 1) := by decide +kernel
theorem dX10_fitsTo_13 : decode cX10_fitsTo 13 = .ok (.istore_n 3, 1) := by decide +kernel
theorem dX10_fitsTo_14 : decode cX10_fitsTo 14 = .ok (.iconst 0, 1) := by decide +kernel
theorem dX10_fitsTo_15 : decode cX10_fitsTo 15 = .ok (.istore 4, 2) := by decide +kernel
theorem dX10_fitsTo_17 : decode cX10_fitsTo 17 = .ok (.iload 4, 2) := by decide +kernel
theorem dX10_fitsTo_19 : decode cX10_fitsTo 19 = .ok (.iload_n 3, 1) := by decide +kernel
theorem dX10_fitsTo_20 : decode cX10_fitsTo 20 = .ok (.if_icmp .ge 36, 3) := by decide +kernel
theorem dX10_fitsTo_23 : decode cX10_fitsTo 23 = .ok (.aload_n 0, 1) := by decide +kernel
theorem dX10_fitsTo_24 : decode cX10_fitsTo 24 = .ok (.iload 4, 2) := by decide +kernel
theorem dX10_fitsTo_26 : decode cX10_fitsTo 26 = .ok (.invokevirtual 280, 3) := by decide +kernel
theorem dX10_fitsTo_29 : decode cX10_fitsTo 29 = .ok (.ifCond .eq 21, 3) := by decide +kernel
theorem dX10_fitsTo_32 : decode cX10_fitsTo 32 = .ok (.iload_n 2, 1) := by decide +kernel
theorem dX10_fitsTo_33 : decode cX10_fitsTo 33 = .ok (.iload_n 1, 1) := by decide +kernel
theorem dX10_fitsTo_34 : decode cX10_fitsTo 34 = .ok (.if_icmp .ne 13, 3) := by decide +kernel
theorem dX10_fitsTo_37 : decode cX10_fitsTo 37 = .ok (.aload_n 0, 1) := by decide +kernel
theorem dX10_fitsTo_38 : decode cX10_fitsTo 38 = .ok (.iload 4, 2) := by decide +kernel
theorem dX10_fitsTo_40 : decode cX10_fitsTo 40 = .ok (.putfield 283, 3) := by decide +kernel
theorem dX10_fitsTo_43 : decode cX10_fitsTo 43 = .ok (.iload_n 2, 1) := by decide +kernel
theorem dX10_fitsTo_44 : decode cX10_fitsTo 44 = .ok (.iconst 1, 1) := by decide +kernel
theorem dX10_fitsTo_45 : decode cX10_fitsTo 45 = .ok (.iadd, 1) := by decide +kernel
theorem dX10_fitsTo_46 : decode cX10_fitsTo 46 = .ok (.ireturn, 1) := by decide +kernel
theorem dX10_fitsTo_47 : decode cX10_fitsTo 47 = .ok (.iinc 2 1, 3) := by decide +kernel
theorem dX10_fitsTo_50 : decode cX10_fitsTo 50 = .ok (.iinc 4 1, 3) := by decide +kernel
theorem dX10_fitsTo_53 : decode cX10_fitsTo 53 = .ok (.goto (-36), 3) := by decide +kernel
theorem dX10_fitsTo_56 : decode cX10_fitsTo 56 = .ok (.iload_n 2, 1) := by decide +kernel
theorem dX10_fitsTo_57 : decode cX10_fitsTo 57 = .ok (.ireturn, 1) := by decide +kernel
theorem dX10_fits_0 : decode cX10_fits 0 = .ok (.aload_n 0, 1) := by decide +kernel
theorem dX10_fits_1 : decode cX10_fits 1 = .ok (.getfield 173, 3) := by decide +kernel
theorem dX10_fits_4 : decode cX10_fits 4 = .ok (.ifCond .eq 11, 3) := by decide +kernel
theorem dX10_fits_7 : decode cX10_fits 7 = .ok (.aload_n 0, 1) := by decide +kernel
theorem dX10_fits_8 : decode cX10_fits 8 = .ok (.iconst (-1), 1) := by decide +kernel
theorem dX10_fits_9 : decode cX10_fits 9 = .ok (.invokevirtual 286, 3) := by decide +kernel
theorem dX10_fits_12 : decode cX10_fits 12 = .ok (.goto 5, 3) := by decide +kernel
theorem dX10_fits_15 : decode cX10_fits 15 = .ok (.bipush (-2), 2) := by decide +kernel
theorem dX10_fits_17 : decode cX10_fits 17 = .ok (.ireturn, 1) := by decide +kernel
theorem dX10_fit_0 : decode cX10_fit 0 = .ok (.iload_n 1, 1) := by decide +kernel
theorem dX10_fit_1 : decode cX10_fit 1 = .ok (.ifCond .lt 13, 3) := by decide +kernel
theorem dX10_fit_4 : decode cX10_fit 4 = .ok (.iload_n 2, 1) := by decide +kernel
theorem dX10_fit_5 : decode cX10_fit 5 = .ok (.i2l, 1) := by decide +kernel
theorem dX10_fit_6 : decode cX10_fit 6 = .ok (.lconst 0, 1) := by decide +kernel
theorem dX10_fit_7 : decode cX10_fit 7 = .ok (.lconst 1, 1) := by decide +kernel
theorem dX10_fit_8 : decode cX10_fit 8 = .ok (.invokestatic 85, 3) := by decide +kernel
theorem dX10_fit_11 : decode cX10_fit 11 = .ok (.ifCond .ne 5, 3) := by decide +kernel
theorem dX10_fit_14 : decode cX10_fit 14 = .ok (.iconst (-1), 1) := by decide +kernel
theorem dX10_fit_15 : decode cX10_fit 15 = .ok (.ireturn, 1) := by decide +kernel
theorem dX10_fit_16 : decode cX10_fit 16 = .ok (.aload_n 0, 1) := by decide +kernel
theorem dX10_fit_17 : decode cX10_fit 17 = .ok (.getfield 173, 3) := by decide +kernel
theorem dX10_fit_20 : decode cX10_fit 20 = .ok (.ifCond .ne 6, 3) := by decide +kernel
theorem dX10_fit_23 : decode cX10_fit 23 = .ok (.bipush (-2), 2) := by decide +kernel
theorem dX10_fit_25 : decode cX10_fit 25 = .ok (.ireturn, 1) := by decide +kernel
theorem dX10_fit_26 : decode cX10_fit 26 = .ok (.aload_n 0, 1) := by decide +kernel
theorem dX10_fit_27 : decode cX10_fit 27 = .ok (.getfield 59, 3) := by decide +kernel
theorem dX10_fit_30 : decode cX10_fit 30 = .ok (.iload_n 2, 1) := by decide +kernel
theorem dX10_fit_31 : decode cX10_fit 31 = .ok (.iaload, 1) := by decide +kernel
theorem dX10_fit_32 : decode cX10_fit 32 = .ok (.ifCond .eq 12, 3) := by decide +kernel
theorem dX10_fit_35 : decode cX10_fit 35 = .ok (.aload_n 0, 1) := by decide +kernel
theorem dX10_fit_36 : decode cX10_fit 36 = .ok (.iload_n 1, 1) := by decide +kernel
theorem dX10_fit_37 : decode cX10_fit 37 = .ok (.invokevirtual 286, 3) := by decide +kernel
theorem dX10_fit_40 : decode cX10_fit 40 = .ok (.iload_n 1, 1) := by decide +kernel
theorem dX10_fit_41 : decode cX10_fit 41 = .ok (.if_icmp .gt 8, 3) := by decide +kernel
theorem dX10_fit_44 : decode cX10_fit 44 = .ok (.bipush (-4), 2) := by decide +kernel
theorem dX10_fit_46 : decode cX10_fit 46 = .ok (.goto 12, 3) := by decide +kernel
theorem dX10_fit_49 : decode cX10_fit 49 = .ok (.aload_n 0, 1) := by decide +kernel
theorem dX10_fit_50 : decode cX10_fit 50 = .ok (.iload_n 2, 1) := by decide +kernel
theorem dX10_fit_51 : decode cX10_fit 51 = .ok (.aload_n 0, 1) := by decide +kernel
theorem dX10_fit_52 : decode cX10_fit 52 = .ok (.getfield 283, 3) := by decide +kernel
theorem dX10_fit_55 : decode cX10_fit 55 = .ok (.invokevirtual 268, 3) := by decide +kernel
theorem dX10_fit_58 : decode cX10_fit 58 = .ok (.ireturn, 1) := by decide +kernel
def uX10_fitsTo : List Cond := .code yX10_fitsTo cX10_fitsTo 5 (some .int) :: ([.methodLink RX10 265 yX10_knobs, .instanceMethod yX10_knobs, .selects RX10 yX10_knobs yX10_knobs, .initialized RX10, .methodLink RX10 280 yX10_holds, .instanceMethod yX10_holds, .selects RX10 yX10_holds yX10_holds, .fieldLink RX10 283 "RiverModelModel" "point" "I", .code yX10_knobs cX10_knobs 2 (some .int), .fieldLink RX10 59 "RiverModelModel" "knobMany" "[I", .code yX10_holds cX10_holds 9 (some .boolean), .methodLink RX10 170 yX10_copies, .instanceMethod yX10_copies, .selects RX10 yX10_copies yX10_copies, .methodLink RX10 271 yX10_lastSeen, .instanceMethod yX10_lastSeen, .selects RX10 yX10_lastSeen yX10_lastSeen, .methodLink RX10 274 yX10_asides, .instanceMethod yX10_asides, .selects RX10 yX10_asides yX10_asides, .methodLink RX10 186 yX10_begins, .instanceMethod yX10_begins, .selects RX10 yX10_begins yX10_begins, .methodLink RX10 277 yX10_returns, .instanceMethod yX10_returns, .selects RX10 yX10_returns yX10_returns, .methodLink RX10 231 yX10_goes, .instanceMethod yX10_goes, .selects RX10 yX10_goes yX10_goes, .fieldLink RX10 44 "RiverModelModel" "seen" "[I", .methodLink RX10 251 yX10_reading, .instanceMethod yX10_reading, .selects RX10 yX10_reading yX10_reading, .fieldLink RX10 258 "RiverModelModel" "ends" "I", .methodLink RX10 85 yX10_in, .static yX10_in, .fieldLink RX10 163 "RiverModelModel" "items" "I", .fieldLink RX10 13 "RiverModelModel" "kind" "[I", .fieldLink RX10 22 "RiverModelModel" "number" "[I", .methodLink RX10 144 yX10_areWell, .static yX10_areWell, .fieldLink RX10 47 "RiverModelModel" "knobItem" "[I", .fieldLink RX10 50 "RiverModelModel" "knobAt" "[I", .methodLink RX10 268 yX10_knobValue, .instanceMethod yX10_knobValue, .selects RX10 yX10_knobValue yX10_knobValue, .code yX10_copies cX10_copies 4 none, .fieldLink RX10 16 "RiverModelModel" "first" "[I", .fieldLink RX10 19 "RiverModelModel" "second" "[I", .code yX10_lastSeen cX10_lastSeen 3 (some .int), .code yX10_asides cX10_asides 2 none, .fieldLink RX10 32 "RiverModelModel" "aside" "[J", .fieldLink RX10 28 "RiverModelModel" "m" "[J", .code yX10_begins cX10_begins 4 none, .methodLink RX10 183 yX10_startOf, .instanceMethod yX10_startOf, .selects RX10 yX10_startOf yX10_startOf, .methodLink RX10 208 yX10_isStore, .instanceMethod yX10_isStore, .selects RX10 yX10_isStore yX10_isStore, .fieldLink RX10 71 "RiverModelModel" "startB" "[I", .constantLong RX10 204 (224), .constantLong RX10 206 (227), .constantLong RX10 196 (5), .code yX10_startOf cX10_startOf 4 (some .int), .methodLink RX10 166 yX10_storeAt, .instanceMethod yX10_storeAt, .selects RX10 yX10_storeAt yX10_storeAt, .code yX10_storeAt cX10_storeAt 5 (some .int), .code yX10_isStore cX10_isStore 2 (some .boolean), .code yX10_in cX10_in 6 (some .boolean), .code yX10_returns cX10_returns 2 none, .code yX10_goes cX10_goes 4 none, .fieldLink RX10 25 "RiverModelModel" "weather" "[I", .methodLink RX10 225 yX10_passes, .instanceMethod yX10_passes, .selects RX10 yX10_passes yX10_passes, .code yX10_passes cX10_passes 12 none, .methodLink RX10 221 yX10_moves, .instanceMethod yX10_moves, .selects RX10 yX10_moves yX10_moves, .code yX10_moves cX10_moves 8 (some .long), .constantLong RX10 219 (10), .methodLink RX10 215 yX10_most, .instanceMethod yX10_most, .selects RX10 yX10_most yX10_most, .constantLong RX10 107 (100), .methodLink RX10 211 yX10_capacity, .instanceMethod yX10_capacity, .selects RX10 yX10_capacity yX10_capacity, .code yX10_most cX10_most 4 (some .long), .code yX10_capacity cX10_capacity 3 (some .long), .code yX10_reading cX10_reading 2 (some .long), .fieldLink RX10 38 "RiverModelModel" "gaugeKind" "[I", .fieldLink RX10 41 "RiverModelModel" "gaugeAt" "[I", .code yX10_areWell cX10_areWell 4 (some .boolean), .constantLong RX10 101 (1000), .constantLong RX10 103 (10000), .constantLong RX10 99 (1000000), .constantLong RX10 105 (12), .code yX10_knobValue cX10_knobValue 4 (some .int), .fieldLink RX10 53 "RiverModelModel" "knobFrom" "[I", .fieldLink RX10 56 "RiverModelModel" "knobStep" "[I"] ++ wsX100)
set_option maxRecDepth 20000 in
theorem gu_X10_fitsTo_X10_knobs_265 : GoodIn uX10_fitsTo (wsV RX10 265 RX10 yX10_knobs uX10_knobs) := goodIn_r _ [1, 2, 3, 4, 9, 10, 104, 105, 106, 107, 108, 109, 110, 111, 112, 113, 114, 115, 116, 117, 118, 119, 120, 121, 122, 123, 124, 125, 126, 127, 128, 129, 130, 131, 132, 133, 134, 135, 136, 137, 138, 139] rfl (by decide +kernel)
set_option maxRecDepth 20000 in
theorem gu_X10_fitsTo_X10_holds_280 : GoodIn uX10_fitsTo (wsV RX10 280 RX10 yX10_holds uX10_holds) := goodIn_r _ [5, 6, 7, 4, 11, 12, 13, 14, 4, 15, 16, 17, 18, 19, 20, 21, 22, 23, 24, 25, 26, 27, 28, 29, 30, 31, 32, 33, 34, 35, 36, 37, 38, 39, 40, 41, 10, 42, 43, 44, 45, 46, 47, 48, 49, 50, 51, 52, 53, 54, 55, 56, 57, 58, 59, 60, 61, 62, 63, 64, 65, 66, 67, 68, 69, 70, 71, 72, 73, 74, 75, 76, 77, 78, 79, 80, 81, 82, 83, 84, 85, 86, 87, 88, 89, 90, 91, 92, 93, 94, 95, 96, 97, 98, 99, 100, 101, 1, 2, 3, 102, 103, 9, 104, 105, 106, 107, 108, 109, 110, 111, 112, 113, 114, 115, 116, 117, 118, 119, 120, 121, 122, 123, 124, 125, 126, 127, 128, 129, 130, 131, 132, 133, 134, 135, 136, 137, 138, 139] rfl (by decide +kernel)
set_option maxHeartbeats 4000000 in
set_option maxRecDepth 100000 in
theorem m_X10_fitsTo (l : Launch) (D : va_G) (t : Nat → Nat) (cI cL cC : ClassId) (gC : Int32) (gE : Int32) (gW : Nat → Int32) (gA : Nat → Int32) (gT : Nat → Int32) (gI : Int32) (gS : Int32) (gM : Int32) (K : Nat → Int32) (F : Nat → Int32) (S : Nat → Int32) (N : Nat → Int32) (gH : Int) (gJ : Int) (ge : Int32) (gk : Int32) (gf : Int32) (gs : Int32) (gg : Int32) (gr : Int32) (RN : Nat → Int32) (a0 : Nat) (a1 : Int32) (uq : ∀ b c : Nat, t b = t c → t b ≠ 0 → b = c) (hI0 : 0 ≤ gI.toInt) (hI4 : gI.toInt ≤ 40) (hH0 : 0 ≤ gH) (hH9 : gH ≤ 96) (hO0 : okM K F S N 0 gI.toInt) (k_a0 : t a0 = 40) : tMx (Z := (Nat → Int32) × (Nat → Int32) × (Nat → Int32) × (Nat → Int32) × (Int) × (Int)) l yX10_fitsTo uX10_fitsTo 6 155 D (mF cI cL cC gC gE gW gA gT gI gS gM K F S N gH gJ ge gk gf gs gg gr RN) (fun z => (mF cI cL cC gC gE gW gA gT gI gS gM z.1 z.2.1 z.2.2.1 z.2.2.2.1 z.2.2.2.2.1 z.2.2.2.2.2 ge gk gf gs gg gr RN)) t cI cL cC [.ref a0, .int a1] wFi (xI (fun r (z : (Nat → Int32) × (Nat → Int32) × (Nat → Int32) × (Nat → Int32) × (Int) × (Int)) => z.2.2.2.2.1 = gH ∧ kpO K z.1 40 40 ∧ kpO F z.2.1 40 40 ∧ kpO S z.2.2.1 40 40 ∧ kpO N z.2.2.2.1 120 120 ∧ (0 ≤ a1.toInt → a1.toInt < r.toInt → okM z.1 z.2.1 z.2.2.1 z.2.2.2.1 40 gI.toInt))) := by
  refine tMx.ofW (cc := cX10_fitsTo) (maxL := 5) (ret := (some .int)) (by decide) rfl (Nat.le_of_ble_eq_true rfl) ?_
  intro p e s m below meth c hx hb hr hml hown hts hlk H locs hG hK hE hS ls hl
  have hl : lv_has ls 5 [(0, .ref a0), (1, .int a1)] := hl
  have in10 : ∀ w ∈ wsX100, w ∈ uX10_fitsTo := fun w h => List.mem_cons_of_mem _ (List.mem_append_right _ h)
  refine lv_iconst (v := 0) hx hb dX10_fitsTo_0 (by decide) ?_
  refine lv_istore_n (lv' := [(2, .int 0), (0, .ref a0), (1, .int a1)]) hx hb dX10_fitsTo_1 rfl hl (by decide) rfl (fun ls hl => ?_)
  refine lv_aload_n hx hb dX10_fitsTo_2 rfl (lv_at hl 1 rfl) ?_
  refine lv_iconst (v := 0) hx hb dX10_fitsTo_3 (by decide) ?_
  have zi_0 : (0 : Int32).toInt = 0 := by decide
  obtain ⟨r_1, v_3, r_4, r_6, r_8, r_10, r_12, r_14, r_16, r_18, r_20, r_22, r_24, r_26, r_28, r_30, r_32, r_34, r_36, r_38, r_40, r_42, r_44, v_46, r_47, at_49, h_2, h_5, h_7, h_9, h_11, h_13, h_15, h_17, h_19, h_21, h_23, h_25, h_27, h_29, h_31, h_33, h_35, h_37, h_39, h_41, h_43, h_45, h_48⟩ := mF_o40 hG k_a0
  refine ty_calli (W.runV (As := [.int 0]) (rest := []) ⟨hx, hb, hml, hown, hts⟩ (m_X10_knobs l D t cI cL cC gC gE gW gA gT gI gS gM K F S N gH gJ ge gk gf gs gg gr RN a0 0  uq (by omega) (by omega) k_a0) (cwV 1 hts gu_X10_fitsTo_X10_knobs_265 rfl rfl rfl (by decide +kernel) ⟨Nat.le_of_ble_eq_true rfl, Nat.le_of_ble_eq_true rfl⟩) (tP_V hG hE at_49 rfl) rfl rfl hl.1 rfl (lv_room (Nat.le_of_ble_eq_true rfl)) dX10_fitsTo_4 ⟨Nat.le_of_ble_eq_true rfl, Nat.le_of_ble_eq_true rfl⟩) hS (fun k h => by simp [wr0] at h) (fun r_50 H locs hp_51 hG hS o_52 => ?_)
  have at_49 := va_at.keptC at_49 o_52 k_a0 rfl
  have hp_51 : 1 ≤ r_50.toInt ∧ r_50.toInt ≤ 16 := hp_51
  obtain ⟨p_54, p_55⟩ := hp_51
  refine lv_aload_n hx hb dX10_fitsTo_7 rfl (lv_at hl 1 rfl) ?_
  refine lv_iconst (v := 1) hx hb dX10_fitsTo_8 (by decide) ?_
  refine lv_pc (pc2 := 9) rfl ?_
  have zi_1 : (1 : Int32).toInt = 1 := by decide
  refine ty_calli (W.runV (As := [.int 1]) (rest := [.int r_50]) ⟨hx, hb, hml, hown, hts⟩ (m_X10_knobs l D t cI cL cC gC gE gW gA gT gI gS gM K F S N gH gJ ge gk gf gs gg gr RN a0 1  uq (by omega) (by omega) k_a0) (cwV 1 hts gu_X10_fitsTo_X10_knobs_265 rfl rfl rfl (by decide +kernel) ⟨Nat.le_of_ble_eq_true rfl, Nat.le_of_ble_eq_true rfl⟩) (tP_V hG hE at_49 rfl) rfl rfl hl.1 rfl (lv_room (Nat.le_of_ble_eq_true rfl)) dX10_fitsTo_9 ⟨Nat.le_of_ble_eq_true rfl, Nat.le_of_ble_eq_true rfl⟩) hS (fun k h => by simp [wr0] at h) (fun r_56 H locs hp_57 hG hS o_58 => ?_)
  have at_49 := va_at.keptC at_49 o_58 k_a0 rfl
  have hp_57 : 1 ≤ r_56.toInt ∧ r_56.toInt ≤ 16 := hp_57
  obtain ⟨p_60, p_61⟩ := hp_57
  refine lv_imul hx hb dX10_fitsTo_12 ?_
  refine lv_topi (fun x_62 e_63 => ?_)
  have i_x_62 : 0 ≤ x_62.toInt ∧ x_62.toInt ≤ 256 := by rw [e_63]; exact q_mul16 (by omega) (by omega) (by omega) (by omega)
  refine lv_istore_n (lv' := [(3, .int x_62), (2, .int 0), (0, .ref a0), (1, .int a1)]) hx hb dX10_fitsTo_13 rfl hl (by decide) rfl (fun ls hl => ?_)
  refine lv_iconst (v := 0) hx hb dX10_fitsTo_14 (by decide) ?_
  refine lv_istore (lv' := [(4, .int 0), (3, .int x_62), (2, .int 0), (0, .ref a0), (1, .int a1)]) hx hb dX10_fitsTo_15 hl (by decide) rfl (fun ls hl => ?_)
  refine lv_pc (pc2 := 17) rfl ?_
  refine lp_gen (fun WW64 hWW64 => ?_)
  have kx64 : ∀ (yp : Int32) (yn : Int32) (K1 : Nat → Int32) (F1 : Nat → Int32) (S1 : Nat → Int32) (N1 : Nat → Int32) (hm : Int) (hj : Int) (H1 : Heap) (locs1 : List Loc) (ls1 : Array Slot), (0 ≤ yp.toInt) → (yp.toInt ≤ 256) → (0 ≤ yn.toInt) → (yn.toInt ≤ yp.toInt) → (hm = gH) → (0 ≤ a1.toInt → yn.toInt ≤ a1.toInt) → (kpO K K1 40 40) → (kpO F F1 40 40) → (kpO S S1 40 40) → (kpO N N1 120 120) → tG D (mF cI cL cC gC gE gW gA gT gI gS gM K1 F1 S1 N1 hm hj ge gk gf gs gg gr RN) t H1 → tF t wFi s.heap H1 locs1 → lv_has ls1 5 [(4, .int yp), (3, .int x_62), (2, .int yn), (0, .ref a0), (1, .int a1)] → WW64 H1 locs1 (F0 m 56 ls1 []) := by
    intro yp yn K1 F1 S1 N1 hm hj H locs ls v64_0 v64_1 v64_2 v64_3 v64_4 v64_5 v64_6 v64_7 v64_8 v64_9 hG hS hl
    refine (hWW64 _ _ _).mpr ?_
    refine lv_iload_n hx hb dX10_fitsTo_56 rfl (lv_at hl 2 rfl) ?_
    exact tx_iret (z := (K1, F1, S1, N1, hm, hj)) hx hb hr hlk hG hS ⟨(by show hm = gH; omega), v64_6, v64_7, v64_8, v64_9, (fun h1 h2 => by exfalso; omega)⟩ dX10_fitsTo_57
  have lp64 : ∀ (kk64 : Nat) (yp : Int32) (yn : Int32) (K1 : Nat → Int32) (F1 : Nat → Int32) (S1 : Nat → Int32) (N1 : Nat → Int32) (hm : Int) (hj : Int) (H1 : Heap) (locs1 : List Loc) (ls1 : Array Slot), x_62.toInt - yp.toInt ≤ (kk64 : Int) → (0 ≤ yp.toInt) → (yp.toInt ≤ 256) → (0 ≤ yn.toInt) → (yn.toInt ≤ yp.toInt) → (hm = gH) → (0 ≤ a1.toInt → yn.toInt ≤ a1.toInt) → (kpO K K1 40 40) → (kpO F F1 40 40) → (kpO S S1 40 40) → (kpO N N1 120 120) → tG D (mF cI cL cC gC gE gW gA gT gI gS gM K1 F1 S1 N1 hm hj ge gk gf gs gg gr RN) t H1 → tF t wFi s.heap H1 locs1 → lv_has ls1 5 [(4, .int yp), (3, .int x_62), (2, .int yn), (0, .ref a0), (1, .int a1)] → WW64 H1 locs1 (F0 m 17 ls1 []) := by
    intro kk64
    induction kk64 with
    | zero =>
      intro yp yn K1 F1 S1 N1 hm hj H locs ls hk64 v64_0 v64_1 v64_2 v64_3 v64_4 v64_5 v64_6 v64_7 v64_8 v64_9 hG hS hl
      refine (hWW64 _ _ _).mpr ?_
      refine lv_iload hx hb dX10_fitsTo_17 (lv_at hl 0 rfl) ?_
      refine lv_pc (pc2 := 19) rfl ?_
      refine lv_iload_n hx hb dX10_fitsTo_19 rfl (lv_at hl 1 rfl) ?_
      refine lv_icmp_ge (tgt := 56) hx hb dX10_fitsTo_20 (by decide) (fun c_65 => ?_) (fun c_65 => ?_)
      · skip
        have c_65 : x_62.toInt ≤ yp.toInt := q_le c_65
        exact (hWW64 _ _ _).mp (kx64 yp yn K1 F1 S1 N1 hm hj H locs ls v64_0 v64_1 v64_2 v64_3 v64_4 v64_5 v64_6 v64_7 v64_8 v64_9 hG hS (lv_sub hl [0, 1, 2, 3, 4] rfl))
      · skip
        have c_65 : yp.toInt < x_62.toInt := q_nle c_65
        exfalso; omega
    | succ kk64 ih64 =>
      intro yp yn K1 F1 S1 N1 hm hj H locs ls hk64 v64_0 v64_1 v64_2 v64_3 v64_4 v64_5 v64_6 v64_7 v64_8 v64_9 hG hS hl
      refine (hWW64 _ _ _).mpr ?_
      refine lv_iload hx hb dX10_fitsTo_17 (lv_at hl 0 rfl) ?_
      refine lv_iload_n hx hb dX10_fitsTo_19 rfl (lv_at hl 1 rfl) ?_
      refine lv_icmp_ge (tgt := 56) hx hb dX10_fitsTo_20 (by decide) (fun c_66 => ?_) (fun c_66 => ?_)
      · skip
        have c_66 : x_62.toInt ≤ yp.toInt := q_le c_66
        exact (hWW64 _ _ _).mp (kx64 yp yn K1 F1 S1 N1 hm hj H locs ls v64_0 v64_1 v64_2 v64_3 v64_4 v64_5 v64_6 v64_7 v64_8 v64_9 hG hS (lv_sub hl [0, 1, 2, 3, 4] rfl))
      · skip
        have c_66 : yp.toInt < x_62.toInt := q_nle c_66
        have hOl := okM.kpg (a := 40) (a3 := 120) (b := 0) (n := gI.toInt) (by decide) (by decide) (by omega) v64_6 v64_7 v64_8 v64_9 hO0
        refine lv_aload_n hx hb dX10_fitsTo_23 rfl (lv_at hl 3 rfl) ?_
        refine lv_iload hx hb dX10_fitsTo_24 (lv_at hl 0 rfl) ?_
        obtain ⟨r_67, v_69, r_70, r_72, r_74, r_76, r_78, r_80, r_82, r_84, r_86, r_88, r_90, r_92, r_94, r_96, r_98, r_100, r_102, r_104, r_106, r_108, r_110, v_112, r_113, at_115, h_68, h_71, h_73, h_75, h_77, h_79, h_81, h_83, h_85, h_87, h_89, h_91, h_93, h_95, h_97, h_99, h_101, h_103, h_105, h_107, h_109, h_111, h_114⟩ := mF_o40 hG k_a0
        refine tx_calli (W.runV (As := [.int yp]) (rest := []) ⟨hx, hb, hml, hown, hts⟩ (m_X10_holds l D t cI cL cC gC gE gW gA gT gI gS gM K1 F1 S1 N1 hm hj ge gk gf gs gg gr RN a0 yp  uq (by omega) (by omega) (by omega) (by omega) hOl k_a0) (cwV 1 hts gu_X10_fitsTo_X10_holds_280 rfl rfl rfl (by decide +kernel) ⟨Nat.le_of_ble_eq_true rfl, Nat.le_of_ble_eq_true rfl⟩) (tP_V hG hE at_115 rfl) rfl rfl hl.1 rfl (lv_room (Nat.le_of_ble_eq_true rfl)) dX10_fitsTo_26 ⟨Nat.le_of_ble_eq_true rfl, Nat.le_of_ble_eq_true rfl⟩) hS (wrL_sub (by decide)) (fun r_116 zz_119 H locs hp_117 hG hS o_118 => ?_)
        obtain ⟨K_120, F_121, S_122, N_123, gH_124, gJ_125⟩ := zz_119
        have at_115 := va_at.keptC at_115 o_118 k_a0 rfl
        replace hG : tG D (mF cI cL cC gC gE gW gA gT gI gS gM K_120 F_121 S_122 N_123 gH_124 gJ_125 ge gk gf gs gg gr RN) t H := hG
        have hp_117 : (r_116 = 1 ∧ gH_124 = hm ∧ kpO K1 K_120 40 40 ∧ kpO F1 F_121 40 40 ∧ kpO S1 S_122 40 40 ∧ kpO N1 N_123 120 120 ∧ okM K_120 F_121 S_122 N_123 40 gI.toInt) ∨ (r_116 = 0 ∧ gH_124 = hm ∧ kpO K1 K_120 40 40 ∧ kpO F1 F_121 40 40 ∧ kpO S1 S_122 40 40 ∧ kpO N1 N_123 120 120) := hp_117
        rcases hp_117 with ⟨rfl, p_126, p_127, p_128, p_129, p_130, p_131⟩ | ⟨rfl, p_132, p_133, p_134, p_135, p_136⟩
        · skip
          refine lv_pc (pc2 := 29) rfl ?_
          refine lv_if_eq (tgt := 50) hx hb dX10_fitsTo_29 (by decide) (fun q => absurd q (by decide)) (fun _ => ?_)
          refine lv_iload_n hx hb dX10_fitsTo_32 rfl (lv_at hl 2 rfl) ?_
          refine lv_iload_n hx hb dX10_fitsTo_33 rfl (lv_at hl 4 rfl) ?_
          refine lv_icmp_ne (tgt := 47) hx hb dX10_fitsTo_34 (by decide) (fun c_137 => ?_) (fun c_137 => ?_)
          · skip
            have c_137 : yn.toInt ≠ a1.toInt := q_ne c_137
            obtain ⟨x_138, e_139⟩ : ∃ y : Int32, y = yn + Int32.ofInt 1 := ⟨_, rfl⟩
            have i_x_138 : x_138.toInt = yn.toInt + 1 := by rw [e_139, show Int32.ofInt 1 = 1 by decide]; exact (q_add (by rw [show (1 : Int32).toInt = 1 by decide]; omega) (by rw [show (1 : Int32).toInt = 1 by decide]; omega)).trans (by rw [show (1 : Int32).toInt = 1 by decide])
            refine lv_iinc (v := x_138) (lv' := [(2, .int x_138), (4, .int yp), (3, .int x_62), (0, .ref a0), (1, .int a1)]) hx hb dX10_fitsTo_47 hl (k := 2) rfl e_139.symm (by decide) rfl (fun ls hl => ?_)
            obtain ⟨x_140, e_141⟩ : ∃ y : Int32, y = yp + Int32.ofInt 1 := ⟨_, rfl⟩
            have i_x_140 : x_140.toInt = yp.toInt + 1 := by rw [e_141, show Int32.ofInt 1 = 1 by decide]; exact (q_add (by rw [show (1 : Int32).toInt = 1 by decide]; omega) (by rw [show (1 : Int32).toInt = 1 by decide]; omega)).trans (by rw [show (1 : Int32).toInt = 1 by decide])
            refine lv_iinc (v := x_140) (lv' := [(4, .int x_140), (2, .int x_138), (3, .int x_62), (0, .ref a0), (1, .int a1)]) hx hb dX10_fitsTo_50 hl (k := 1) rfl e_141.symm (by decide) rfl (fun ls hl => ?_)
            refine lv_goto (tgt := 17) hx hb dX10_fitsTo_53 (by decide) ?_
            exact (hWW64 _ _ _).mp (ih64 x_140 x_138 K_120 F_121 S_122 N_123 gH_124 gJ_125 H locs ls (by omega) (by omega) (by omega) (by omega) (by omega) (by omega) (by omega) (v64_6.tr p_127) (v64_7.tr p_128) (v64_8.tr p_129) (v64_9.tr p_130) hG hS (lv_sub hl [0, 2, 1, 3, 4] rfl))
          · skip
            have c_137 : yn.toInt = a1.toInt := q_eq c_137
            refine lv_aload_n hx hb dX10_fitsTo_37 rfl (lv_at hl 3 rfl) ?_
            refine lv_pc (pc2 := 38) rfl ?_
            refine lv_iload hx hb dX10_fitsTo_38 (lv_at hl 0 rfl) ?_
            refine ty_put (D := D) (ci := 9) (v := .int yp) (ty := .int) (C := RX10) (T := TX10) (N := 36) (F2 := (mF cI cL cC gC gE gW gA gT gI gS gM K_120 F_121 S_122 N_123 gH_124 gJ_125 ge gk gf gs gg gr RN)) hx hb hts in10 tyX10 tyX10_ok nmX10 hown hK hG hS at_115 (by rw [k_a0]; rfl) rfl 34 (by decide) (hts (.fieldLink RX10 283 "RiverModelModel" "point" "I") (List.mem_of_getElem? (i := 8) rfl)) (fun _ h9 => h9) rfl (by decide +kernel) rfl rfl (Nat.le_of_ble_eq_true rfl) (by rw [k_a0]; exact ⟨r_67, v_69, r_70, r_72, r_74, r_76, r_78, r_80, r_82, r_84, r_86, r_88, r_90, r_92, r_94, r_96, r_98, r_100, r_102, r_104, r_106, r_108, r_110, yp, r_113, rfl, h_68, h_71, h_73, h_75, h_77, h_79, h_81, h_83, h_85, h_87, h_89, h_91, h_93, h_95, h_97, h_99, h_101, h_103, h_105, h_107, h_109, h_111, h_114⟩) tFF dX10_fitsTo_40 (fun H locs hG hS at_142 o_143 => ?_)
            have at_142 : va_at D vwCl (a0, .inr (9, [.int gC, .ref r_67, .int v_69, .int gI, .ref r_70, .ref r_72, .ref r_74, .ref r_76, .int gS, .ref r_78, .ref r_80, .ref r_82, .ref r_84, .int gM, .ref r_86, .ref r_88, .ref r_90, .int gE, .ref r_92, .ref r_94, .ref r_96, .ref r_98, .ref r_100, .ref r_102, .ref r_104, .ref r_106, .ref r_108, .int ge, .int gk, .int gf, .int gs, .int gg, .ref r_110, .int gr, .int yp, .ref r_113])) H := at_142
            refine lv_iload_n hx hb dX10_fitsTo_43 rfl (lv_at hl 2 rfl) ?_
            refine lv_iconst (v := 1) hx hb dX10_fitsTo_44 (by decide) ?_
            refine lv_iadd hx hb dX10_fitsTo_45 ?_
            refine lv_topi (fun x_144 e_145 => ?_)
            have i_x_144 : x_144.toInt = yn.toInt + 1 := by rw [e_145]; exact (q_add (by rw [show (1 : Int32).toInt = 1 by decide]; omega) (by rw [show (1 : Int32).toInt = 1 by decide]; omega)).trans (by rw [show (1 : Int32).toInt = 1 by decide])
            exact tx_iret (z := (K_120, F_121, S_122, N_123, gH_124, gJ_125)) hx hb hr hlk hG hS ⟨(by show gH_124 = gH; omega), (v64_6.tr p_127), (v64_7.tr p_128), (v64_8.tr p_129), (v64_9.tr p_130), (fun _ _ => p_131)⟩ dX10_fitsTo_46
        · skip
          refine lv_if_eq (tgt := 50) hx hb dX10_fitsTo_29 (by decide) (fun _ => ?_) (fun q => absurd (by decide) q)
          obtain ⟨x_146, e_147⟩ : ∃ y : Int32, y = yp + Int32.ofInt 1 := ⟨_, rfl⟩
          have i_x_146 : x_146.toInt = yp.toInt + 1 := by rw [e_147, show Int32.ofInt 1 = 1 by decide]; exact (q_add (by rw [show (1 : Int32).toInt = 1 by decide]; omega) (by rw [show (1 : Int32).toInt = 1 by decide]; omega)).trans (by rw [show (1 : Int32).toInt = 1 by decide])
          refine lv_iinc (v := x_146) (lv' := [(4, .int x_146), (3, .int x_62), (2, .int yn), (0, .ref a0), (1, .int a1)]) hx hb dX10_fitsTo_50 hl (k := 0) rfl e_147.symm (by decide) rfl (fun ls hl => ?_)
          refine lv_pc (pc2 := 53) rfl ?_
          refine lv_goto (tgt := 17) hx hb dX10_fitsTo_53 (by decide) ?_
          exact (hWW64 _ _ _).mp (ih64 x_146 yn K_120 F_121 S_122 N_123 gH_124 gJ_125 H locs ls (by omega) (by omega) (by omega) (by omega) (by omega) (by omega) (by omega) (v64_6.tr p_133) (v64_7.tr p_134) (v64_8.tr p_135) (v64_9.tr p_136) hG hS (lv_sub hl [0, 1, 2, 3, 4] rfl))
  exact lp64 (x_62.toInt - (0 : Int32).toInt : Int).toNat 0 0 K F S N gH gJ H locs ls (by omega) (by omega) (by omega) (by omega) (by omega) (by omega) (by omega) kpO.rf kpO.rf kpO.rf kpO.rf hG hS (lv_sub hl [0, 1, 2, 3, 4] rfl)

def uX10_fits : List Cond := .code yX10_fits cX10_fits 1 (some .int) :: ([.fieldLink RX10 173 "RiverModelModel" "isBuilt" "Z", .methodLink RX10 286 yX10_fitsTo, .instanceMethod yX10_fitsTo, .selects RX10 yX10_fitsTo yX10_fitsTo, .initialized RX10, .code yX10_fitsTo cX10_fitsTo 5 (some .int), .methodLink RX10 265 yX10_knobs, .instanceMethod yX10_knobs, .selects RX10 yX10_knobs yX10_knobs, .methodLink RX10 280 yX10_holds, .instanceMethod yX10_holds, .selects RX10 yX10_holds yX10_holds, .fieldLink RX10 283 "RiverModelModel" "point" "I", .code yX10_knobs cX10_knobs 2 (some .int), .fieldLink RX10 59 "RiverModelModel" "knobMany" "[I", .code yX10_holds cX10_holds 9 (some .boolean), .methodLink RX10 170 yX10_copies, .instanceMethod yX10_copies, .selects RX10 yX10_copies yX10_copies, .methodLink RX10 271 yX10_lastSeen, .instanceMethod yX10_lastSeen, .selects RX10 yX10_lastSeen yX10_lastSeen, .methodLink RX10 274 yX10_asides, .instanceMethod yX10_asides, .selects RX10 yX10_asides yX10_asides, .methodLink RX10 186 yX10_begins, .instanceMethod yX10_begins, .selects RX10 yX10_begins yX10_begins, .methodLink RX10 277 yX10_returns, .instanceMethod yX10_returns, .selects RX10 yX10_returns yX10_returns, .methodLink RX10 231 yX10_goes, .instanceMethod yX10_goes, .selects RX10 yX10_goes yX10_goes, .fieldLink RX10 44 "RiverModelModel" "seen" "[I", .methodLink RX10 251 yX10_reading, .instanceMethod yX10_reading, .selects RX10 yX10_reading yX10_reading, .fieldLink RX10 258 "RiverModelModel" "ends" "I", .methodLink RX10 85 yX10_in, .static yX10_in, .fieldLink RX10 163 "RiverModelModel" "items" "I", .fieldLink RX10 13 "RiverModelModel" "kind" "[I", .fieldLink RX10 22 "RiverModelModel" "number" "[I", .methodLink RX10 144 yX10_areWell, .static yX10_areWell, .fieldLink RX10 47 "RiverModelModel" "knobItem" "[I", .fieldLink RX10 50 "RiverModelModel" "knobAt" "[I", .methodLink RX10 268 yX10_knobValue, .instanceMethod yX10_knobValue, .selects RX10 yX10_knobValue yX10_knobValue, .code yX10_copies cX10_copies 4 none, .fieldLink RX10 16 "RiverModelModel" "first" "[I", .fieldLink RX10 19 "RiverModelModel" "second" "[I", .code yX10_lastSeen cX10_lastSeen 3 (some .int), .code yX10_asides cX10_asides 2 none, .fieldLink RX10 32 "RiverModelModel" "aside" "[J", .fieldLink RX10 28 "RiverModelModel" "m" "[J", .code yX10_begins cX10_begins 4 none, .methodLink RX10 183 yX10_startOf, .instanceMethod yX10_startOf, .selects RX10 yX10_startOf yX10_startOf, .methodLink RX10 208 yX10_isStore, .instanceMethod yX10_isStore, .selects RX10 yX10_isStore yX10_isStore, .fieldLink RX10 71 "RiverModelModel" "startB" "[I", .constantLong RX10 204 (224), .constantLong RX10 206 (227), .constantLong RX10 196 (5), .code yX10_startOf cX10_startOf 4 (some .int), .methodLink RX10 166 yX10_storeAt, .instanceMethod yX10_storeAt, .selects RX10 yX10_storeAt yX10_storeAt, .code yX10_storeAt cX10_storeAt 5 (some .int), .code yX10_isStore cX10_isStore 2 (some .boolean), .code yX10_in cX10_in 6 (some .boolean), .code yX10_returns cX10_returns 2 none, .code yX10_goes cX10_goes 4 none, .fieldLink RX10 25 "RiverModelModel" "weather" "[I", .methodLink RX10 225 yX10_passes, .instanceMethod yX10_passes, .selects RX10 yX10_passes yX10_passes, .code yX10_passes cX10_passes 12 none, .methodLink RX10 221 yX10_moves, .instanceMethod yX10_moves, .selects RX10 yX10_moves yX10_moves, .code yX10_moves cX10_moves 8 (some .long), .constantLong RX10 219 (10), .methodLink RX10 215 yX10_most, .instanceMethod yX10_most, .selects RX10 yX10_most yX10_most, .constantLong RX10 107 (100), .methodLink RX10 211 yX10_capacity, .instanceMethod yX10_capacity, .selects RX10 yX10_capacity yX10_capacity, .code yX10_most cX10_most 4 (some .long), .code yX10_capacity cX10_capacity 3 (some .long), .code yX10_reading cX10_reading 2 (some .long), .fieldLink RX10 38 "RiverModelModel" "gaugeKind" "[I", .fieldLink RX10 41 "RiverModelModel" "gaugeAt" "[I", .code yX10_areWell cX10_areWell 4 (some .boolean), .constantLong RX10 101 (1000), .constantLong RX10 103 (10000), .constantLong RX10 99 (1000000), .constantLong RX10 105 (12), .code yX10_knobValue cX10_knobValue 4 (some .int), .fieldLink RX10 53 "RiverModelModel" "knobFrom" "[I", .fieldLink RX10 56 "RiverModelModel" "knobStep" "[I"] ++ wsX100)
set_option maxRecDepth 20000 in
theorem gu_X10_fits_X10_fitsTo_286 : GoodIn uX10_fits (wsV RX10 286 RX10 yX10_fitsTo uX10_fitsTo) := goodIn_r _ [2, 3, 4, 5, 6, 7, 8, 9, 5, 10, 11, 12, 13, 14, 15, 16, 17, 18, 19, 20, 21, 22, 23, 24, 25, 26, 27, 28, 29, 30, 31, 32, 33, 34, 35, 36, 37, 38, 39, 40, 41, 42, 43, 44, 45, 46, 47, 48, 49, 50, 51, 52, 53, 54, 55, 56, 57, 58, 59, 60, 61, 62, 63, 64, 65, 66, 67, 68, 69, 70, 71, 72, 73, 74, 75, 76, 77, 78, 79, 80, 81, 82, 83, 84, 85, 86, 87, 88, 89, 90, 91, 92, 93, 94, 95, 96, 97, 98, 99, 100, 101, 102, 103, 104, 105, 106, 107, 108, 109, 110, 111, 112, 113, 114, 115, 116, 117, 118, 119, 120, 121, 122, 123, 124, 125, 126, 127, 128, 129, 130, 131, 132, 133, 134, 135, 136, 137, 138, 139, 140, 141, 142, 143, 144] rfl (by decide +kernel)
set_option maxHeartbeats 4000000 in
set_option maxRecDepth 100000 in
theorem m_X10_fits (l : Launch) (D : va_G) (t : Nat → Nat) (cI cL cC : ClassId) (gC : Int32) (gE : Int32) (gW : Nat → Int32) (gA : Nat → Int32) (gT : Nat → Int32) (gI : Int32) (gS : Int32) (gM : Int32) (K : Nat → Int32) (F : Nat → Int32) (S : Nat → Int32) (N : Nat → Int32) (gH : Int) (gJ : Int) (ge : Int32) (gk : Int32) (gf : Int32) (gs : Int32) (gg : Int32) (gr : Int32) (RN : Nat → Int32) (a0 : Nat) (uq : ∀ b c : Nat, t b = t c → t b ≠ 0 → b = c) (hC0 : 0 ≤ gC.toInt) (hC4 : gC.toInt ≤ 400) (hI0 : 0 ≤ gI.toInt) (hI4 : gI.toInt ≤ 40) (hH0 : 0 ≤ gH) (hH9 : gH ≤ 96) (hm0 : 0 ≤ gM.toInt) (hm3 : gM.toInt ≤ 3) (hO0 : okM K F S N 0 gI.toInt) (hW : swM gS K F S N gI.toInt) (k_a0 : t a0 = 40) : tMx (Z := (Nat → Int32) × (Nat → Int32) × (Nat → Int32) × (Nat → Int32) × (Int) × (Int)) l yX10_fits uX10_fits 7 179 D (mF cI cL cC gC gE gW gA gT gI gS gM K F S N gH gJ ge gk gf gs gg gr RN) (fun z => (mF cI cL cC gC gE gW gA gT gI gS gM z.1 z.2.1 z.2.2.1 z.2.2.2.1 z.2.2.2.2.1 z.2.2.2.2.2 ge gk gf gs gg gr RN)) t cI cL cC [.ref a0] wFi (xI (fun r (z : (Nat → Int32) × (Nat → Int32) × (Nat → Int32) × (Nat → Int32) × (Int) × (Int)) => 0 ≤ z.2.2.2.2.1 ∧ z.2.2.2.2.1 ≤ 96 ∧ okM z.1 z.2.1 z.2.2.1 z.2.2.2.1 0 gI.toInt ∧ swM gS z.1 z.2.1 z.2.2.1 z.2.2.2.1 gI.toInt)) := by
  refine tMx.ofW (cc := cX10_fits) (maxL := 1) (ret := (some .int)) (by decide) rfl (Nat.le_of_ble_eq_true rfl) ?_
  intro p e s m below meth c hx hb hr hml hown hts hlk H locs hG hK hE hS ls hl
  have hl : lv_has ls 1 [(0, .ref a0)] := hl
  have in10 : ∀ w ∈ wsX100, w ∈ uX10_fits := fun w h => List.mem_cons_of_mem _ (List.mem_append_right _ h)
  refine lv_aload_n hx hb dX10_fits_0 rfl (lv_at hl 0 rfl) ?_
  obtain ⟨r_1, v_3, r_4, r_6, r_8, r_10, r_12, r_14, r_16, r_18, r_20, r_22, r_24, r_26, r_28, r_30, r_32, r_34, r_36, r_38, r_40, r_42, r_44, v_46, r_47, at_49, h_2, h_5, h_7, h_9, h_11, h_13, h_15, h_17, h_19, h_21, h_23, h_25, h_27, h_29, h_31, h_33, h_35, h_37, h_39, h_41, h_43, h_45, h_48⟩ := mF_o40 hG k_a0
  refine va_get (D := D) (ci := 9) (v := .int v_3) (C := RX10) (T := TX10) (N := 36) hx hb hts in10 hown hK (va_one at_49) 0 rfl rfl 2 (by decide) (hts (.fieldLink RX10 173 "RiverModelModel" "isBuilt" "Z") (List.mem_of_getElem? (i := 1) rfl)) (fun _ h9 => h9) rfl dX10_fits_1 ?_
  refine lv_if_eq (tgt := 15) hx hb dX10_fits_4 (by decide) (fun c_50 => ?_) (fun c_50 => ?_)
  · skip
    have c_50 : v_3.toInt = 0 := q_eq c_50
    refine lv_bipush (v := (-2)) hx hb dX10_fits_15 (by decide) ?_
    have zi_m2 : ((-2) : Int32).toInt = (-2) := by decide
    exact tx_iret (z := (K, F, S, N, gH, gJ)) hx hb hr hlk hG hS ⟨(by show 0 ≤ gH; omega), (by show gH ≤ 96; omega), (show okM K F S N 0 gI.toInt from hO0), (show swM gS K F S N gI.toInt from hW)⟩ dX10_fits_17
  · skip
    have c_50 : v_3.toInt ≠ 0 := q_ne c_50
    refine lv_aload_n hx hb dX10_fits_7 rfl (lv_at hl 0 rfl) ?_
    refine lv_iconst (v := (-1)) hx hb dX10_fits_8 (by decide) ?_
    refine lv_pc (pc2 := 9) rfl ?_
    have zi_m1 : ((-1) : Int32).toInt = (-1) := by decide
    refine tx_calli (W.runV (As := [.int (-1)]) (rest := []) ⟨hx, hb, hml, hown, hts⟩ (m_X10_fitsTo l D t cI cL cC gC gE gW gA gT gI gS gM K F S N gH gJ ge gk gf gs gg gr RN a0 (-1)  uq (by omega) (by omega) (by omega) (by omega) hO0 k_a0) (cwV 1 hts gu_X10_fits_X10_fitsTo_286 rfl rfl rfl (by decide +kernel) ⟨Nat.le_of_ble_eq_true rfl, Nat.le_of_ble_eq_true rfl⟩) (tP_V hG hE at_49 rfl) rfl rfl hl.1 rfl (lv_room (Nat.le_of_ble_eq_true rfl)) dX10_fits_9 ⟨Nat.le_of_ble_eq_true rfl, Nat.le_of_ble_eq_true rfl⟩) hS (fun _ h => h) (fun r_51 zz_54 H locs hp_52 hG hS o_53 => ?_)
    obtain ⟨K_55, F_56, S_57, N_58, gH_59, gJ_60⟩ := zz_54
    replace hG : tG D (mF cI cL cC gC gE gW gA gT gI gS gM K_55 F_56 S_57 N_58 gH_59 gJ_60 ge gk gf gs gg gr RN) t H := hG
    have hp_52 : gH_59 = gH ∧ kpO K K_55 40 40 ∧ kpO F F_56 40 40 ∧ kpO S S_57 40 40 ∧ kpO N N_58 120 120 ∧ (0 ≤ ((-1) : Int32).toInt → ((-1) : Int32).toInt < r_51.toInt → okM K_55 F_56 S_57 N_58 40 gI.toInt) := hp_52
    obtain ⟨p_61, p_62, p_63, p_64, p_65, p_66⟩ := hp_52
    have ok_67 := okM.kpg (a := 40) (a3 := 120) (b := 0) (n := gI.toInt) (by decide) (by decide) (by omega) p_62 p_63 p_64 p_65 hO0
    have ok_68 : swM gS K_55 F_56 S_57 N_58 gI.toInt := Or.imp id (fun h => okM.kpg (a := 40) (a3 := 120) (b := 80) (n := gI.toInt) (by decide) (by decide) (by omega) p_62 p_63 p_64 p_65 h) hW
    refine lv_goto (tgt := 17) hx hb dX10_fits_12 (by decide) ?_
    exact tx_iret (z := (K_55, F_56, S_57, N_58, gH_59, gJ_60)) hx hb hr hlk hG hS ⟨(by show 0 ≤ gH_59; omega), (by show gH_59 ≤ 96; omega), (show okM K_55 F_56 S_57 N_58 0 gI.toInt from ok_67), (show swM gS K_55 F_56 S_57 N_58 gI.toInt from ok_68)⟩ dX10_fits_17

def uX10_fit : List Cond := .code yX10_fit cX10_fit 3 (some .int) :: ([.methodLink RX10 85 yX10_in, .static yX10_in, .initialized RX10, .fieldLink RX10 173 "RiverModelModel" "isBuilt" "Z", .fieldLink RX10 59 "RiverModelModel" "knobMany" "[I", .methodLink RX10 286 yX10_fitsTo, .instanceMethod yX10_fitsTo, .selects RX10 yX10_fitsTo yX10_fitsTo, .fieldLink RX10 283 "RiverModelModel" "point" "I", .methodLink RX10 268 yX10_knobValue, .instanceMethod yX10_knobValue, .selects RX10 yX10_knobValue yX10_knobValue, .code yX10_in cX10_in 6 (some .boolean), .code yX10_fitsTo cX10_fitsTo 5 (some .int), .methodLink RX10 265 yX10_knobs, .instanceMethod yX10_knobs, .selects RX10 yX10_knobs yX10_knobs, .methodLink RX10 280 yX10_holds, .instanceMethod yX10_holds, .selects RX10 yX10_holds yX10_holds, .code yX10_knobs cX10_knobs 2 (some .int), .code yX10_holds cX10_holds 9 (some .boolean), .methodLink RX10 170 yX10_copies, .instanceMethod yX10_copies, .selects RX10 yX10_copies yX10_copies, .methodLink RX10 271 yX10_lastSeen, .instanceMethod yX10_lastSeen, .selects RX10 yX10_lastSeen yX10_lastSeen, .methodLink RX10 274 yX10_asides, .instanceMethod yX10_asides, .selects RX10 yX10_asides yX10_asides, .methodLink RX10 186 yX10_begins, .instanceMethod yX10_begins, .selects RX10 yX10_begins yX10_begins, .methodLink RX10 277 yX10_returns, .instanceMethod yX10_returns, .selects RX10 yX10_returns yX10_returns, .methodLink RX10 231 yX10_goes, .instanceMethod yX10_goes, .selects RX10 yX10_goes yX10_goes, .fieldLink RX10 44 "RiverModelModel" "seen" "[I", .methodLink RX10 251 yX10_reading, .instanceMethod yX10_reading, .selects RX10 yX10_reading yX10_reading, .fieldLink RX10 258 "RiverModelModel" "ends" "I", .fieldLink RX10 163 "RiverModelModel" "items" "I", .fieldLink RX10 13 "RiverModelModel" "kind" "[I", .fieldLink RX10 22 "RiverModelModel" "number" "[I", .methodLink RX10 144 yX10_areWell, .static yX10_areWell, .fieldLink RX10 47 "RiverModelModel" "knobItem" "[I", .fieldLink RX10 50 "RiverModelModel" "knobAt" "[I", .code yX10_copies cX10_copies 4 none, .fieldLink RX10 16 "RiverModelModel" "first" "[I", .fieldLink RX10 19 "RiverModelModel" "second" "[I", .code yX10_lastSeen cX10_lastSeen 3 (some .int), .code yX10_asides cX10_asides 2 none, .fieldLink RX10 32 "RiverModelModel" "aside" "[J", .fieldLink RX10 28 "RiverModelModel" "m" "[J", .code yX10_begins cX10_begins 4 none, .methodLink RX10 183 yX10_startOf, .instanceMethod yX10_startOf, .selects RX10 yX10_startOf yX10_startOf, .methodLink RX10 208 yX10_isStore, .instanceMethod yX10_isStore, .selects RX10 yX10_isStore yX10_isStore, .fieldLink RX10 71 "RiverModelModel" "startB" "[I", .constantLong RX10 204 (224), .constantLong RX10 206 (227), .constantLong RX10 196 (5), .code yX10_startOf cX10_startOf 4 (some .int), .methodLink RX10 166 yX10_storeAt, .instanceMethod yX10_storeAt, .selects RX10 yX10_storeAt yX10_storeAt, .code yX10_storeAt cX10_storeAt 5 (some .int), .code yX10_isStore cX10_isStore 2 (some .boolean), .code yX10_returns cX10_returns 2 none, .code yX10_goes cX10_goes 4 none, .fieldLink RX10 25 "RiverModelModel" "weather" "[I", .methodLink RX10 225 yX10_passes, .instanceMethod yX10_passes, .selects RX10 yX10_passes yX10_passes, .code yX10_passes cX10_passes 12 none, .methodLink RX10 221 yX10_moves, .instanceMethod yX10_moves, .selects RX10 yX10_moves yX10_moves, .code yX10_moves cX10_moves 8 (some .long), .constantLong RX10 219 (10), .methodLink RX10 215 yX10_most, .instanceMethod yX10_most, .selects RX10 yX10_most yX10_most, .constantLong RX10 107 (100), .methodLink RX10 211 yX10_capacity, .instanceMethod yX10_capacity, .selects RX10 yX10_capacity yX10_capacity, .code yX10_most cX10_most 4 (some .long), .code yX10_capacity cX10_capacity 3 (some .long), .code yX10_reading cX10_reading 2 (some .long), .fieldLink RX10 38 "RiverModelModel" "gaugeKind" "[I", .fieldLink RX10 41 "RiverModelModel" "gaugeAt" "[I", .code yX10_areWell cX10_areWell 4 (some .boolean), .constantLong RX10 101 (1000), .constantLong RX10 103 (10000), .constantLong RX10 99 (1000000), .constantLong RX10 105 (12), .code yX10_knobValue cX10_knobValue 4 (some .int), .fieldLink RX10 53 "RiverModelModel" "knobFrom" "[I", .fieldLink RX10 56 "RiverModelModel" "knobStep" "[I"] ++ wsX100)
set_option maxRecDepth 20000 in
theorem gu_X10_fit_X10_in_85 : GoodIn uX10_fit (va_wsS RX10 85 yX10_in uX10_in) := goodIn_r _ [1, 2, 3, 13] rfl (by decide +kernel)
set_option maxRecDepth 20000 in
theorem gu_X10_fit_X10_fitsTo_286 : GoodIn uX10_fit (wsV RX10 286 RX10 yX10_fitsTo uX10_fitsTo) := goodIn_r _ [6, 7, 8, 3, 14, 15, 16, 17, 3, 18, 19, 20, 9, 21, 5, 22, 23, 24, 25, 26, 27, 28, 29, 30, 31, 32, 33, 34, 35, 36, 37, 38, 39, 40, 41, 42, 43, 44, 45, 1, 2, 46, 47, 48, 49, 50, 51, 52, 10, 11, 12, 53, 54, 55, 56, 57, 58, 59, 60, 61, 62, 63, 64, 65, 66, 67, 68, 69, 70, 71, 72, 73, 74, 75, 76, 13, 77, 78, 79, 80, 81, 82, 83, 84, 85, 86, 87, 88, 89, 90, 91, 92, 93, 94, 95, 96, 97, 98, 99, 100, 101, 102, 103, 104, 105, 106, 107, 108, 109, 110, 111, 112, 113, 114, 115, 116, 117, 118, 119, 120, 121, 122, 123, 124, 125, 126, 127, 128, 129, 130, 131, 132, 133, 134, 135, 136, 137, 138, 139, 140, 141, 142, 143, 144] rfl (by decide +kernel)
set_option maxRecDepth 20000 in
theorem gu_X10_fit_X10_knobValue_268 : GoodIn uX10_fit (wsV RX10 268 RX10 yX10_knobValue uX10_knobValue) := goodIn_r _ [10, 11, 12, 3, 106, 15, 16, 17, 3, 107, 108, 21, 5, 109, 110, 111, 112, 113, 114, 115, 116, 117, 118, 119, 120, 121, 122, 123, 124, 125, 126, 127, 128, 129, 130, 131, 132, 133, 134, 135, 136, 137, 138, 139, 140, 141, 142, 143, 144] rfl (by decide +kernel)
set_option maxHeartbeats 4000000 in
set_option maxRecDepth 100000 in
theorem m_X10_fit (l : Launch) (D : va_G) (t : Nat → Nat) (cI cL cC : ClassId) (gC : Int32) (gE : Int32) (gW : Nat → Int32) (gA : Nat → Int32) (gT : Nat → Int32) (gI : Int32) (gS : Int32) (gM : Int32) (K : Nat → Int32) (F : Nat → Int32) (S : Nat → Int32) (N : Nat → Int32) (gH : Int) (gJ : Int) (ge : Int32) (gk : Int32) (gf : Int32) (gs : Int32) (gg : Int32) (gr : Int32) (RN : Nat → Int32) (a0 : Nat) (a1 : Int32) (a2 : Int32) (uq : ∀ b c : Nat, t b = t c → t b ≠ 0 → b = c) (hC0 : 0 ≤ gC.toInt) (hC4 : gC.toInt ≤ 400) (hI0 : 0 ≤ gI.toInt) (hI4 : gI.toInt ≤ 40) (hH0 : 0 ≤ gH) (hH9 : gH ≤ 96) (hm0 : 0 ≤ gM.toInt) (hm3 : gM.toInt ≤ 3) (hO0 : okM K F S N 0 gI.toInt) (hW : swM gS K F S N gI.toInt) (k_a0 : t a0 = 40) : tMx (Z := (Nat → Int32) × (Nat → Int32) × (Nat → Int32) × (Nat → Int32) × (Int) × (Int)) l yX10_fit uX10_fit 7 179 D (mF cI cL cC gC gE gW gA gT gI gS gM K F S N gH gJ ge gk gf gs gg gr RN) (fun z => (mF cI cL cC gC gE gW gA gT gI gS gM z.1 z.2.1 z.2.2.1 z.2.2.2.1 z.2.2.2.2.1 z.2.2.2.2.2 ge gk gf gs gg gr RN)) t cI cL cC [.ref a0, .int a1, .int a2] wFi (xI (fun r (z : (Nat → Int32) × (Nat → Int32) × (Nat → Int32) × (Nat → Int32) × (Int) × (Int)) => 0 ≤ z.2.2.2.2.1 ∧ z.2.2.2.2.1 ≤ 96 ∧ okM z.1 z.2.1 z.2.2.1 z.2.2.2.1 0 gI.toInt ∧ swM gS z.1 z.2.1 z.2.2.1 z.2.2.2.1 gI.toInt)) := by
  refine tMx.ofW (cc := cX10_fit) (maxL := 3) (ret := (some .int)) (by decide) rfl (Nat.le_of_ble_eq_true rfl) ?_
  intro p e s m below meth c hx hb hr hml hown hts hlk H locs hG hK hE hS ls hl
  have hl : lv_has ls 3 [(0, .ref a0), (1, .int a1), (2, .int a2)] := hl
  have in10 : ∀ w ∈ wsX100, w ∈ uX10_fit := fun w h => List.mem_cons_of_mem _ (List.mem_append_right _ h)
  refine lv_iload_n hx hb dX10_fit_0 rfl (lv_at hl 1 rfl) ?_
  refine lv_if_lt (tgt := 14) hx hb dX10_fit_1 (by decide) (fun c_1 => ?_) (fun c_1 => ?_)
  · skip
    have c_1 : a1.toInt < 0 := q_lt c_1
    refine lv_iconst (v := (-1)) hx hb dX10_fit_14 (by decide) ?_
    have zi_m1 : ((-1) : Int32).toInt = (-1) := by decide
    exact tx_iret (z := (K, F, S, N, gH, gJ)) hx hb hr hlk hG hS ⟨(by show 0 ≤ gH; omega), (by show gH ≤ 96; omega), (show okM K F S N 0 gI.toInt from hO0), (show swM gS K F S N gI.toInt from hW)⟩ dX10_fit_15
  · skip
    have c_1 : 0 ≤ a1.toInt := q_nlt c_1
    refine lv_iload_n hx hb dX10_fit_4 rfl (lv_at hl 2 rfl) ?_
    refine lv_i2l (v := a2.toInt64) hx hb dX10_fit_5 rfl ?_
    refine lv_lconst (v := 0) hx hb dX10_fit_6 (by decide) ?_
    refine lv_pc (pc2 := 7) rfl ?_
    refine lv_lconst (v := 1) hx hb dX10_fit_7 (by decide) ?_
    have zl_0 : (0 : Int64).toInt = 0 := by decide
    have zl_1 : (1 : Int64).toInt = 1 := by decide
    refine ty_calli (W.runS (As := [.long a2.toInt64, .long 0, .long 1]) (rest := []) ⟨hx, hb, hml, hown, hts⟩ (m_X10_in l D t cI cL cC gC gE gW gA gT gI gS gM K F S N gH gJ ge gk gf gs gg gr RN a2.toInt64 0 1 a2.toInt 0 1 uq (q_i2l _) (by decide) (by decide) ) (va_cwS 3 hts gu_X10_fit_X10_in_85 rfl rfl rfl (by decide +kernel) ⟨Nat.le_of_ble_eq_true rfl, Nat.le_of_ble_eq_true rfl⟩) (tP_S hG hE) rfl rfl hl.1 rfl (lv_room (Nat.le_of_ble_eq_true rfl)) dX10_fit_8 ⟨Nat.le_of_ble_eq_true rfl, Nat.le_of_ble_eq_true rfl⟩) hS (fun k h => by simp [wr0] at h) (fun r_2 H locs hp_3 hG hS o_4 => ?_)
    have hp_3 : (r_2 = 1 ∧ 0 ≤ a2.toInt ∧ a2.toInt ≤ 1) ∨ (r_2 = 0 ∧ (a2.toInt < 0 ∨ 1 < a2.toInt)) := hp_3
    rcases hp_3 with ⟨rfl, p_6, p_7⟩ | ⟨rfl, p_8⟩
    · skip
      refine lv_if_ne (tgt := 16) hx hb dX10_fit_11 (by decide) (fun _ => ?_) (fun q => absurd q (by decide))
      refine lv_aload_n hx hb dX10_fit_16 rfl (lv_at hl 0 rfl) ?_
      obtain ⟨r_9, v_11, r_12, r_14, r_16, r_18, r_20, r_22, r_24, r_26, r_28, r_30, r_32, r_34, r_36, r_38, r_40, r_42, r_44, r_46, r_48, r_50, r_52, v_54, r_55, at_57, h_10, h_13, h_15, h_17, h_19, h_21, h_23, h_25, h_27, h_29, h_31, h_33, h_35, h_37, h_39, h_41, h_43, h_45, h_47, h_49, h_51, h_53, h_56⟩ := mF_o40 hG k_a0
      refine va_get (D := D) (ci := 9) (v := .int v_11) (C := RX10) (T := TX10) (N := 36) hx hb hts in10 hown hK (va_one at_57) 0 rfl rfl 2 (by decide) (hts (.fieldLink RX10 173 "RiverModelModel" "isBuilt" "Z") (List.mem_of_getElem? (i := 4) rfl)) (fun _ h9 => h9) rfl dX10_fit_17 ?_
      refine lv_if_ne (tgt := 26) hx hb dX10_fit_20 (by decide) (fun c_58 => ?_) (fun c_58 => ?_)
      · skip
        have c_58 : v_11.toInt ≠ 0 := q_ne c_58
        refine lv_aload_n hx hb dX10_fit_26 rfl (lv_at hl 0 rfl) ?_
        refine va_get (D := D) (ci := 9) (v := .ref r_42) (C := RX10) (T := TX10) (N := 36) hx hb hts in10 hown hK (va_one at_57) 0 rfl rfl 22 (by decide) (hts (.fieldLink RX10 59 "RiverModelModel" "knobMany" "[I") (List.mem_of_getElem? (i := 5) rfl)) (fun _ h9 => h9) rfl dX10_fit_27 ?_
        refine lv_pc (pc2 := 30) rfl ?_
        refine lv_iload_n hx hb dX10_fit_30 rfl (lv_at hl 2 rfl) ?_
        obtain ⟨f_59, at_60, h_61⟩ := mF_o57 hG h_43
        have b_62 : vp_in a2 2 := (q_in (by omega) (by omega))
        refine va_iald hx hb hK (va_one at_60) 0 0 rfl rfl b_62 dX10_fit_31 ?_
        refine lv_topi (fun x_63 e_64 => ?_)
        have i_x_63 := by have h := h_61 _ (q_inlt b_62); rw [← e_64] at h; exact h
        refine lv_if_eq (tgt := 44) hx hb dX10_fit_32 (by decide) (fun c_65 => ?_) (fun c_65 => ?_)
        · skip
          have c_65 : x_63.toInt = 0 := q_eq c_65
          refine lv_bipush (v := (-4)) hx hb dX10_fit_44 (by decide) ?_
          refine lv_goto (tgt := 58) hx hb dX10_fit_46 (by decide) ?_
          have zi_m4 : ((-4) : Int32).toInt = (-4) := by decide
          exact tx_iret (z := (K, F, S, N, gH, gJ)) hx hb hr hlk hG hS ⟨(by show 0 ≤ gH; omega), (by show gH ≤ 96; omega), (show okM K F S N 0 gI.toInt from hO0), (show swM gS K F S N gI.toInt from hW)⟩ dX10_fit_58
        · skip
          have c_65 : x_63.toInt ≠ 0 := q_ne c_65
          refine lv_aload_n hx hb dX10_fit_35 rfl (lv_at hl 0 rfl) ?_
          refine lv_iload_n hx hb dX10_fit_36 rfl (lv_at hl 1 rfl) ?_
          refine lv_pc (pc2 := 37) rfl ?_
          refine tx_calli (W.runV (As := [.int a1]) (rest := []) ⟨hx, hb, hml, hown, hts⟩ (m_X10_fitsTo l D t cI cL cC gC gE gW gA gT gI gS gM K F S N gH gJ ge gk gf gs gg gr RN a0 a1  uq (by omega) (by omega) (by omega) (by omega) hO0 k_a0) (cwV 1 hts gu_X10_fit_X10_fitsTo_286 rfl rfl rfl (by decide +kernel) ⟨Nat.le_of_ble_eq_true rfl, Nat.le_of_ble_eq_true rfl⟩) (tP_V hG hE at_57 rfl) rfl rfl hl.1 rfl (lv_room (Nat.le_of_ble_eq_true rfl)) dX10_fit_37 ⟨Nat.le_of_ble_eq_true rfl, Nat.le_of_ble_eq_true rfl⟩) hS (fun _ h => h) (fun r_66 zz_69 H locs hp_67 hG hS o_68 => ?_)
          obtain ⟨K_70, F_71, S_72, N_73, gH_74, gJ_75⟩ := zz_69
          have at_60 := va_at.keptC at_60 o_68 h_43 rfl
          replace hG : tG D (mF cI cL cC gC gE gW gA gT gI gS gM K_70 F_71 S_72 N_73 gH_74 gJ_75 ge gk gf gs gg gr RN) t H := hG
          have hp_67 : gH_74 = gH ∧ kpO K K_70 40 40 ∧ kpO F F_71 40 40 ∧ kpO S S_72 40 40 ∧ kpO N N_73 120 120 ∧ (0 ≤ a1.toInt → a1.toInt < r_66.toInt → okM K_70 F_71 S_72 N_73 40 gI.toInt) := hp_67
          obtain ⟨p_76, p_77, p_78, p_79, p_80, p_81⟩ := hp_67
          have ok_82 := okM.kpg (a := 40) (a3 := 120) (b := 0) (n := gI.toInt) (by decide) (by decide) (by omega) p_77 p_78 p_79 p_80 hO0
          have ok_83 : swM gS K_70 F_71 S_72 N_73 gI.toInt := Or.imp id (fun h => okM.kpg (a := 40) (a3 := 120) (b := 80) (n := gI.toInt) (by decide) (by decide) (by omega) p_77 p_78 p_79 p_80 h) hW
          refine lv_iload_n hx hb dX10_fit_40 rfl (lv_at hl 1 rfl) ?_
          refine lv_icmp_gt (tgt := 49) hx hb dX10_fit_41 (by decide) (fun c_84 => ?_) (fun c_84 => ?_)
          · skip
            have c_84 : a1.toInt < r_66.toInt := q_lt c_84
            refine lv_aload_n hx hb dX10_fit_49 rfl (lv_at hl 0 rfl) ?_
            refine lv_iload_n hx hb dX10_fit_50 rfl (lv_at hl 2 rfl) ?_
            refine lv_aload_n hx hb dX10_fit_51 rfl (lv_at hl 0 rfl) ?_
            obtain ⟨r_85, v_87, r_88, r_90, r_92, r_94, r_96, r_98, r_100, r_102, r_104, r_106, r_108, r_110, r_112, r_114, r_116, r_118, r_120, r_122, r_124, r_126, r_128, v_130, r_131, at_133, h_86, h_89, h_91, h_93, h_95, h_97, h_99, h_101, h_103, h_105, h_107, h_109, h_111, h_113, h_115, h_117, h_119, h_121, h_123, h_125, h_127, h_129, h_132⟩ := mF_o40 hG k_a0
            refine va_get (D := D) (ci := 9) (v := .int v_130) (C := RX10) (T := TX10) (N := 36) hx hb hts in10 hown hK (va_one at_133) 0 rfl rfl 34 (by decide) (hts (.fieldLink RX10 283 "RiverModelModel" "point" "I") (List.mem_of_getElem? (i := 9) rfl)) (fun _ h9 => h9) rfl dX10_fit_52 ?_
            refine ty_calli (W.runV (As := [.int a2, .int v_130]) (rest := []) ⟨hx, hb, hml, hown, hts⟩ (m_X10_knobValue l D t cI cL cC gC gE gW gA gT gI gS gM K_70 F_71 S_72 N_73 gH_74 gJ_75 ge gk gf gs gg gr RN a0 a2 v_130  uq (by omega) (by omega) k_a0) (cwV 2 hts gu_X10_fit_X10_knobValue_268 rfl rfl rfl (by decide +kernel) ⟨Nat.le_of_ble_eq_true rfl, Nat.le_of_ble_eq_true rfl⟩) (tP_V hG hE at_133 rfl) rfl rfl hl.1 rfl (lv_room (Nat.le_of_ble_eq_true rfl)) dX10_fit_55 ⟨Nat.le_of_ble_eq_true rfl, Nat.le_of_ble_eq_true rfl⟩) hS (fun k h => by simp [wr0] at h) (fun r_134 H locs hp_135 hG hS o_136 => ?_)
            have at_60 := va_at.keptC at_60 o_136 h_43 rfl
            have at_133 := va_at.keptC at_133 o_136 k_a0 rfl
            refine lv_pc (pc2 := 58) rfl ?_
            exact tx_iret (z := (K_70, F_71, S_72, N_73, gH_74, gJ_75)) hx hb hr hlk hG hS ⟨(by show 0 ≤ gH_74; omega), (by show gH_74 ≤ 96; omega), (show okM K_70 F_71 S_72 N_73 0 gI.toInt from ok_82), (show swM gS K_70 F_71 S_72 N_73 gI.toInt from ok_83)⟩ dX10_fit_58
          · skip
            have c_84 : r_66.toInt ≤ a1.toInt := q_nlt c_84
            refine lv_bipush (v := (-4)) hx hb dX10_fit_44 (by decide) ?_
            refine lv_goto (tgt := 58) hx hb dX10_fit_46 (by decide) ?_
            have zi_m4 : ((-4) : Int32).toInt = (-4) := by decide
            exact tx_iret (z := (K_70, F_71, S_72, N_73, gH_74, gJ_75)) hx hb hr hlk hG hS ⟨(by show 0 ≤ gH_74; omega), (by show gH_74 ≤ 96; omega), (show okM K_70 F_71 S_72 N_73 0 gI.toInt from ok_82), (show swM gS K_70 F_71 S_72 N_73 gI.toInt from ok_83)⟩ dX10_fit_58
      · skip
        have c_58 : v_11.toInt = 0 := q_eq c_58
        refine lv_bipush (v := (-2)) hx hb dX10_fit_23 (by decide) ?_
        have zi_m2 : ((-2) : Int32).toInt = (-2) := by decide
        exact tx_iret (z := (K, F, S, N, gH, gJ)) hx hb hr hlk hG hS ⟨(by show 0 ≤ gH; omega), (by show gH ≤ 96; omega), (show okM K F S N 0 gI.toInt from hO0), (show swM gS K F S N gI.toInt from hW)⟩ dX10_fit_25
    · skip
      refine lv_if_ne (tgt := 16) hx hb dX10_fit_11 (by decide) (fun q => absurd rfl q) (fun _ => ?_)
      refine lv_iconst (v := (-1)) hx hb dX10_fit_14 (by decide) ?_
      refine lv_pc (pc2 := 15) rfl ?_
      have zi_m1 : ((-1) : Int32).toInt = (-1) := by decide
      exact tx_iret (z := (K, F, S, N, gH, gJ)) hx hb hr hlk hG hS ⟨(by show 0 ≤ gH; omega), (by show gH ≤ 96; omega), (show okM K F S N 0 gI.toInt from hO0), (show swM gS K F S N gI.toInt from hW)⟩ dX10_fit_15
