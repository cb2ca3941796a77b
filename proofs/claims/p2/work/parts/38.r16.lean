theorem dX10_write_0 : decode cX10_write 0 = .ok (.iload_n 1, 1) := by decide +kernel
theorem dX10_write_1 : decode cX10_write 1 = .ok (.i2l, 1) := by decide +kernel
theorem dX10_write_2 : decode cX10_write 2 = .ok (.lconst 1, 1) := by decide +kernel
theorem dX10_write_3 : decode cX10_write 3 = .ok (.ldc2_w 83, 3) := by decide +kernel
theorem dX10_write_6 : decode cX10_write 6 = .ok (.invokestatic 85, 3) := by decide +kernel
theorem dX10_write_9 : decode cX10_write 9 = .ok (.ifCond .ne 5, 3) := by decide +kernel
theorem dX10_write_12 : decode cX10_write 12 = .ok (.iconst (-1), 1) := by decide +kernel
theorem dX10_write_13 : decode cX10_write 13 = .ok (.ireturn, 1) := by decide +kernel
theorem dX10_write_14 : decode cX10_write 14 = .ok (.aload_n 0, 1) := by decide +kernel
theorem dX10_write_15 : decode cX10_write 15 = .ok (.getfield 89, 3) := by decide +kernel
theorem dX10_write_18 : decode cX10_write 18 = .ok (.iload_n 1, 1) := by decide +kernel
theorem dX10_write_19 : decode cX10_write 19 = .ok (.iadd, 1) := by decide +kernel
theorem dX10_write_20 : decode cX10_write 20 = .ok (.sipush 400, 3) := by decide +kernel
theorem dX10_write_23 : decode cX10_write 23 = .ok (.if_icmp .le 6, 3) := by decide +kernel
theorem dX10_write_26 : decode cX10_write 26 = .ok (.bipush (-3), 2) := by decide +kernel
theorem dX10_write_28 : decode cX10_write 28 = .ok (.ireturn, 1) := by decide +kernel
theorem dX10_write_29 : decode cX10_write 29 = .ok (.iload_n 1, 1) := by decide +kernel
theorem dX10_write_30 : decode cX10_write 30 = .ok (.iconst 1, 1) := by decide +kernel
theorem dX10_write_31 : decode cX10_write 31 = .ok (.isub, 1) := by decide +kernel
theorem dX10_write_32 : decode cX10_write 32 = .ok (.istore 4, 2) := by decide +kernel
theorem dX10_write_34 : decode cX10_write 34 = .ok (.iload 4, 2) := by decide +kernel
theorem dX10_write_36 : decode cX10_write 36 = .ok (.ifCond .lt 40, 3) := by decide +kernel
theorem dX10_write_39 : decode cX10_write 39 = .ok (.aload_n 0, 1) := by decide +kernel
theorem dX10_write_40 : decode cX10_write 40 = .ok (.getfield 7, 3) := by decide +kernel
theorem dX10_write_43 : decode cX10_write 43 = .ok (.aload_n 0, 1) := by decide +kernel
theorem dX10_write_44 : decode cX10_write 44 = .ok (.getfield 89, 3) := by decide +kernel
theorem dX10_write_47 : decode cX10_write 47 = .ok (.lload_n 2, 1) := by decide +kernel
theorem dX10_write_48 : decode cX10_write 48 = .ok (.bipush 8, 2) := by decide +kernel
theorem dX10_write_50 : decode cX10_write 50 = .ok (.iload 4, 2) := by decide +kernel
theorem dX10_write_52 : decode cX10_write 52 = .ok (.imul, 1) := by decide +kernel
theorem dX10_write_53 : decode cX10_write 53 = .ok (.lshr, 1) := by decide +kernel
theorem dX10_write_54 : decode cX10_write 54 = .ok (.ldc2_w 93, 3) := by decide +kernel
theorem dX10_write_57 : decode cX10_write 57 = .ok (.land, 1) := by decide +kernel
theorem dX10_write_58 : decode cX10_write 58 = .ok (.l2i, 1) := by decide +kernel
theorem dX10_write_59 : decode cX10_write 59 = .ok (.iastore, 1) := by decide +kernel
theorem dX10_write_60 : decode cX10_write 60 = .ok (.aload_n 0, 1) := by decide +kernel
theorem dX10_write_61 : decode cX10_write 61 = .ok (.dup, 1) := by decide +kernel
theorem dX10_write_62 : decode cX10_write 62 = .ok (.getfield 89, 3) := by decide +kernel
theorem dX10_write_65 : decode cX10_write 65 = .ok (.iconst 1, 1) := by decide +kernel
theorem dX10_write_66 : decode cX10_write 66 = .ok (.iadd, 1) := by decide +kernel
theorem dX10_write_67 : decode cX10_write 67 = .ok (.putfield 89, 3) := by decide +kernel
theorem dX10_write_70 : decode cX10_write 70 = .ok (.iinc 4 (-1), 3) := by decide +kernel
theorem dX10_write_73 : decode cX10_write 73 = .ok (.goto (-39), 3) := by decide +kernel
theorem dX10_write_76 : decode cX10_write 76 = .ok (.aload_n 0, 1) := by decide +kernel
theorem dX10_write_77 : decode cX10_write 77 = .ok (.getfield 89, 3) := by decide +kernel
theorem dX10_write_80 : decode cX10_write 80 = .ok (.ireturn, 1) := by decide +kernel
theorem dX10_clear_0 : decode cX10_clear 0 = .ok (.aload_n 0, 1) := by decide +kernel
theorem dX10_clear_1 : decode cX10_clear 1 = .ok (.getfield 89, 3) := by decide +kernel
theorem dX10_clear_4 : decode cX10_clear 4 = .ok (.istore_n 1, 1) := by decide +kernel
theorem dX10_clear_5 : decode cX10_clear 5 = .ok (.aload_n 0, 1) := by decide +kernel
theorem dX10_clear_6 : decode cX10_clear 6 = .ok (.iconst 0, 1) := by decide +kernel
theorem dX10_clear_7 : decode cX10_clear 7 = .ok (.putfield 89, 3) := by decide +kernel
theorem dX10_clear_10 : decode cX10_clear 10 = .ok (.iload_n 1, 1) := by decide +kernel
theorem dX10_clear_11 : decode cX10_clear 11 = .ok (.ireturn, 1) := by decide +kernel
def uX10_clear : List Cond := .code yX10_clear cX10_clear 2 (some .int) :: ([.fieldLink RX10 89 "RiverModelModel" "length" "I"] ++ wsX100)
set_option maxHeartbeats 4000000 in
set_option maxRecDepth 100000 in
theorem m_X10_clear (l : Launch) (D : va_G) (t : Nat → Nat) (cI cL cC : ClassId) (gC : Int32) (gE : Int32) (gW : Nat → Int32) (gA : Nat → Int32) (gT : Nat → Int32) (gI : Int32) (gS : Int32) (gM : Int32) (K : Nat → Int32) (F : Nat → Int32) (S : Nat → Int32) (N : Nat → Int32) (gH : Int) (gJ : Int) (ge : Int32) (gk : Int32) (gf : Int32) (gs : Int32) (gg : Int32) (gr : Int32) (RN : Nat → Int32) (a0 : Nat) (uq : ∀ b c : Nat, t b = t c → t b ≠ 0 → b = c) (hC0 : 0 ≤ gC.toInt) (hC4 : gC.toInt ≤ 400) (hI0 : 0 ≤ gI.toInt) (hI4 : gI.toInt ≤ 40) (hH0 : 0 ≤ gH) (hH9 : gH ≤ 96) (hm0 : 0 ≤ gM.toInt) (hm3 : gM.toInt ≤ 3) (hO0 : okM K F S N 0 gI.toInt) (hW : swM gS K F S N gI.toInt) (k_a0 : t a0 = 40) : tMx (Z := (Int32)) l yX10_clear uX10_clear 0 0 D (mF cI cL cC gC gE gW gA gT gI gS gM K F S N gH gJ ge gk gf gs gg gr RN) (fun z => (mF cI cL cC z gE gW gA gT gI gS gM K F S N gH gJ ge gk gf gs gg gr RN)) t cI cL cC [.ref a0] w40 (xI (fun r (z : (Int32)) => r = gC ∧ z = 0 ∧ 0 ≤ z.toInt ∧ z.toInt ≤ 400)) := by
  refine tMx.ofW (cc := cX10_clear) (maxL := 2) (ret := (some .int)) (by decide) rfl (Nat.le_of_ble_eq_true rfl) ?_
  intro p e s m below meth c hx hb hr hml hown hts hlk H locs hG hK hE hS ls hl
  have hl : lv_has ls 2 [(0, .ref a0)] := hl
  have in10 : ∀ w ∈ wsX100, w ∈ uX10_clear := fun w h => List.mem_cons_of_mem _ (List.mem_append_right _ h)
  refine lv_aload_n hx hb dX10_clear_0 rfl (lv_at hl 0 rfl) ?_
  obtain ⟨r_1, v_3, r_4, r_6, r_8, r_10, r_12, r_14, r_16, r_18, r_20, r_22, r_24, r_26, r_28, r_30, r_32, r_34, r_36, r_38, r_40, r_42, r_44, v_46, r_47, at_49, h_2, h_5, h_7, h_9, h_11, h_13, h_15, h_17, h_19, h_21, h_23, h_25, h_27, h_29, h_31, h_33, h_35, h_37, h_39, h_41, h_43, h_45, h_48⟩ := mF_o40 hG k_a0
  refine va_get (D := D) (ci := 9) (v := .int gC) (C := RX10) (T := TX10) (N := 36) hx hb hts in10 hown hK (va_one at_49) 0 rfl rfl 0 (by decide) (hts (.fieldLink RX10 89 "RiverModelModel" "length" "I") (List.mem_of_getElem? (i := 1) rfl)) (fun _ h9 => h9) rfl dX10_clear_1 ?_
  refine lv_istore_n (lv' := [(1, .int gC), (0, .ref a0)]) hx hb dX10_clear_4 rfl hl (by decide) rfl (fun ls hl => ?_)
  refine lv_aload_n hx hb dX10_clear_5 rfl (lv_at hl 1 rfl) ?_
  refine lv_iconst (v := 0) hx hb dX10_clear_6 (by decide) ?_
  have zi_0 : (0 : Int32).toInt = 0 := by decide
  refine ty_put (D := D) (ci := 9) (v := .int 0) (ty := .int) (C := RX10) (T := TX10) (N := 36) (F2 := (mF cI cL cC 0 gE gW gA gT gI gS gM K F S N gH gJ ge gk gf gs gg gr RN)) hx hb hts in10 tyX10 tyX10_ok nmX10 hown hK hG hS at_49 (by rw [k_a0]; rfl) rfl 0 (by decide) (hts (.fieldLink RX10 89 "RiverModelModel" "length" "I") (List.mem_of_getElem? (i := 1) rfl)) (fun _ h9 => h9) rfl (by decide +kernel) rfl rfl (Nat.le_of_ble_eq_true rfl) (by rw [k_a0]; exact ⟨r_1, v_3, r_4, r_6, r_8, r_10, r_12, r_14, r_16, r_18, r_20, r_22, r_24, r_26, r_28, r_30, r_32, r_34, r_36, r_38, r_40, r_42, r_44, v_46, r_47, rfl, h_2, h_5, h_7, h_9, h_11, h_13, h_15, h_17, h_19, h_21, h_23, h_25, h_27, h_29, h_31, h_33, h_35, h_37, h_39, h_41, h_43, h_45, h_48⟩) (fun hG b hb h0 => by obtain ⟨e, g1, g2⟩ := hG b h0; exact ⟨e, g1, mF_gC (fun h => hb (uq b a0 (h.trans k_a0.symm) h0)) g2⟩) dX10_clear_7 (fun H locs hG hS at_50 o_51 => ?_)
  have at_50 : va_at D vwCl (a0, .inr (9, [.int 0, .ref r_1, .int v_3, .int gI, .ref r_4, .ref r_6, .ref r_8, .ref r_10, .int gS, .ref r_12, .ref r_14, .ref r_16, .ref r_18, .int gM, .ref r_20, .ref r_22, .ref r_24, .int gE, .ref r_26, .ref r_28, .ref r_30, .ref r_32, .ref r_34, .ref r_36, .ref r_38, .ref r_40, .ref r_42, .int ge, .int gk, .int gf, .int gs, .int gg, .ref r_44, .int gr, .int v_46, .ref r_47])) H := at_50
  refine lv_iload_n hx hb dX10_clear_10 rfl (lv_at hl 0 rfl) ?_
  refine lv_pc (pc2 := 11) rfl ?_
  exact tx_iret (z := (0)) hx hb hr hlk hG hS ⟨(show gC = gC from rfl), (show (0 : Int32) = 0 from rfl), (by show 0 ≤ (0 : Int32).toInt; omega), (by show (0 : Int32).toInt ≤ 400; omega)⟩ dX10_clear_11

def uX10_write : List Cond := .code yX10_write cX10_write 5 (some .int) :: ([.constantLong RX10 83 (8), .methodLink RX10 85 yX10_in, .static yX10_in, .initialized RX10, .fieldLink RX10 89 "RiverModelModel" "length" "I", .fieldLink RX10 7 "RiverModelModel" "text" "[I", .constantLong RX10 93 (255), .code yX10_in cX10_in 6 (some .boolean)] ++ wsX100)
set_option maxRecDepth 20000 in
theorem gu_X10_write_X10_in_85 : GoodIn uX10_write (va_wsS RX10 85 yX10_in uX10_in) := goodIn_r _ [2, 3, 4, 8] rfl (by decide +kernel)
set_option maxHeartbeats 4000000 in
set_option maxRecDepth 100000 in
theorem m_X10_write (l : Launch) (D : va_G) (t : Nat → Nat) (cI cL cC : ClassId) (gC : Int32) (gE : Int32) (gW : Nat → Int32) (gA : Nat → Int32) (gT : Nat → Int32) (gI : Int32) (gS : Int32) (gM : Int32) (K : Nat → Int32) (F : Nat → Int32) (S : Nat → Int32) (N : Nat → Int32) (gH : Int) (gJ : Int) (ge : Int32) (gk : Int32) (gf : Int32) (gs : Int32) (gg : Int32) (gr : Int32) (RN : Nat → Int32) (a0 : Nat) (a1 : Int32) (a2 : Int64) (uq : ∀ b c : Nat, t b = t c → t b ≠ 0 → b = c) (hC0 : 0 ≤ gC.toInt) (hC4 : gC.toInt ≤ 400) (hI0 : 0 ≤ gI.toInt) (hI4 : gI.toInt ≤ 40) (hH0 : 0 ≤ gH) (hH9 : gH ≤ 96) (hm0 : 0 ≤ gM.toInt) (hm3 : gM.toInt ≤ 3) (hO0 : okM K F S N 0 gI.toInt) (hW : swM gS K F S N gI.toInt) (k_a0 : t a0 = 40) : tMx (Z := (Int32) × (Nat → Int32)) l yX10_write uX10_write 1 25 D (mF cI cL cC gC gE gW gA gT gI gS gM K F S N gH gJ ge gk gf gs gg gr RN) (fun z => (mF cI cL cC z.1 gE gW gA z.2 gI gS gM K F S N gH gJ ge gk gf gs gg gr RN)) t cI cL cC [.ref a0, .int a1, .long a2] wT (xI (fun r (z : (Int32) × (Nat → Int32)) => r = awr gC a1 ∧ z.1 = nwr gC a1 ∧ 0 ≤ z.1.toInt ∧ z.1.toInt ≤ 400)) := by
  refine tMx.ofW (cc := cX10_write) (maxL := 5) (ret := (some .int)) (by decide) rfl (Nat.le_of_ble_eq_true rfl) ?_
  intro p e s m below meth c hx hb hr hml hown hts hlk H locs hG hK hE hS ls hl
  have hl : lv_has ls 5 [(0, .ref a0), (1, .int a1), (2, .long a2)] := hl
  have in10 : ∀ w ∈ wsX100, w ∈ uX10_write := fun w h => List.mem_cons_of_mem _ (List.mem_append_right _ h)
  refine lv_iload_n hx hb dX10_write_0 rfl (lv_at hl 1 rfl) ?_
  refine lv_i2l (v := a1.toInt64) hx hb dX10_write_1 rfl ?_
  refine lv_lconst (v := 1) hx hb dX10_write_2 (by decide) ?_
  refine lv_ldc2 hx hb hown (hts (.constantLong RX10 83 (8)) (List.mem_of_getElem? (i := 1) rfl)) dX10_write_3 ?_
  have zl_1 : (1 : Int64).toInt = 1 := by decide
  have zl_8 : (8 : Int64).toInt = 8 := by decide
  refine ty_calli (W.runS (As := [.long a1.toInt64, .long 1, .long 8]) (rest := []) ⟨hx, hb, hml, hown, hts⟩ (m_X10_in l D t cI cL cC gC gE gW gA gT gI gS gM K F S N gH gJ ge gk gf gs gg gr RN a1.toInt64 1 8 a1.toInt 1 8 uq (q_i2l _) (by decide) (by decide) ) (va_cwS 3 hts gu_X10_write_X10_in_85 rfl rfl rfl (by decide +kernel) ⟨Nat.le_of_ble_eq_true rfl, Nat.le_of_ble_eq_true rfl⟩) (tP_S hG hE) rfl rfl hl.1 rfl (lv_room (Nat.le_of_ble_eq_true rfl)) dX10_write_6 ⟨Nat.le_of_ble_eq_true rfl, Nat.le_of_ble_eq_true rfl⟩) hS (fun k h => by simp [wr0] at h) (fun r_1 H locs hp_2 hG hS o_3 => ?_)
  have hp_2 : (r_1 = 1 ∧ 1 ≤ a1.toInt ∧ a1.toInt ≤ 8) ∨ (r_1 = 0 ∧ (a1.toInt < 1 ∨ 8 < a1.toInt)) := hp_2
  rcases hp_2 with ⟨rfl, p_5, p_6⟩ | ⟨rfl, p_7⟩
  · skip
    refine lv_if_ne (tgt := 14) hx hb dX10_write_9 (by decide) (fun _ => ?_) (fun q => absurd q (by decide))
    refine lv_aload_n hx hb dX10_write_14 rfl (lv_at hl 0 rfl) ?_
    refine lv_pc (pc2 := 15) rfl ?_
    obtain ⟨r_8, v_10, r_11, r_13, r_15, r_17, r_19, r_21, r_23, r_25, r_27, r_29, r_31, r_33, r_35, r_37, r_39, r_41, r_43, r_45, r_47, r_49, r_51, v_53, r_54, at_56, h_9, h_12, h_14, h_16, h_18, h_20, h_22, h_24, h_26, h_28, h_30, h_32, h_34, h_36, h_38, h_40, h_42, h_44, h_46, h_48, h_50, h_52, h_55⟩ := mF_o40 hG k_a0
    refine va_get (D := D) (ci := 9) (v := .int gC) (C := RX10) (T := TX10) (N := 36) hx hb hts in10 hown hK (va_one at_56) 0 rfl rfl 0 (by decide) (hts (.fieldLink RX10 89 "RiverModelModel" "length" "I") (List.mem_of_getElem? (i := 5) rfl)) (fun _ h9 => h9) rfl dX10_write_15 ?_
    refine lv_iload_n hx hb dX10_write_18 rfl (lv_at hl 1 rfl) ?_
    refine lv_iadd hx hb dX10_write_19 ?_
    refine lv_topi (fun x_57 e_58 => ?_)
    have i_x_57 : x_57.toInt = gC.toInt + a1.toInt := by rw [e_58]; exact (q_add (by omega) (by omega)).trans (by rfl)
    refine lv_sipush (v := 400) hx hb dX10_write_20 (by decide) ?_
    refine lv_icmp_le (tgt := 29) hx hb dX10_write_23 (by decide) (fun c_59 => ?_) (fun c_59 => ?_)
    · skip
      have c_59 : x_57.toInt ≤ 400 := q_le c_59
      refine lv_iload_n hx hb dX10_write_29 rfl (lv_at hl 1 rfl) ?_
      refine lv_iconst (v := 1) hx hb dX10_write_30 (by decide) ?_
      refine lv_isub hx hb dX10_write_31 ?_
      refine lv_topi (fun x_60 e_61 => ?_)
      have i_x_60 : x_60.toInt = a1.toInt - 1 := by rw [e_61]; exact (q_sub (by rw [show (1 : Int32).toInt = 1 by decide]; omega) (by rw [show (1 : Int32).toInt = 1 by decide]; omega)).trans (by rw [show (1 : Int32).toInt = 1 by decide])
      refine lv_pc (pc2 := 32) rfl ?_
      refine lv_istore (lv' := [(4, .int x_60), (0, .ref a0), (1, .int a1), (2, .long a2)]) hx hb dX10_write_32 hl (by decide) rfl (fun ls hl => ?_)
      refine lv_pc (pc2 := 34) rfl ?_
      refine lp_gen (fun WW62 hWW62 => ?_)
      have kx62 : ∀ (yk : Int32) (c1 : Int32) (t1 : Nat → Int32) (H1 : Heap) (locs1 : List Loc) (ls1 : Array Slot), (-1 ≤ yk.toInt) → (yk.toInt < a1.toInt) → (c1.toInt = gC.toInt + a1.toInt - 1 - yk.toInt) → (yk.toInt < 0) → tG D (mF cI cL cC c1 gE gW gA t1 gI gS gM K F S N gH gJ ge gk gf gs gg gr RN) t H1 → tF t wT s.heap H1 locs1 → lv_has ls1 5 [(4, .int yk), (0, .ref a0), (1, .int a1), (2, .long a2)] → WW62 H1 locs1 (F0 m 76 ls1 []) := by
        intro yk c1 t1 H locs ls v62_0 v62_1 v62_2 xf62_0 hG hS hl
        refine (hWW62 _ _ _).mpr ?_
        refine lv_aload_n hx hb dX10_write_76 rfl (lv_at hl 1 rfl) ?_
        obtain ⟨r_63, v_65, r_66, r_68, r_70, r_72, r_74, r_76, r_78, r_80, r_82, r_84, r_86, r_88, r_90, r_92, r_94, r_96, r_98, r_100, r_102, r_104, r_106, v_108, r_109, at_111, h_64, h_67, h_69, h_71, h_73, h_75, h_77, h_79, h_81, h_83, h_85, h_87, h_89, h_91, h_93, h_95, h_97, h_99, h_101, h_103, h_105, h_107, h_110⟩ := mF_o40 hG k_a0
        refine va_get (D := D) (ci := 9) (v := .int c1) (C := RX10) (T := TX10) (N := 36) hx hb hts in10 hown hK (va_one at_111) 0 rfl rfl 0 (by decide) (hts (.fieldLink RX10 89 "RiverModelModel" "length" "I") (List.mem_of_getElem? (i := 5) rfl)) (fun _ h9 => h9) rfl dX10_write_77 ?_
        exact tx_iret (z := (c1, t1)) hx hb hr hlk hG hS ⟨(by show c1 = awr gC a1; simp only [awr]; rw [if_neg (by omega), if_neg (by omega)]; exact Int32.toInt_inj.mp (by rw [q_add (by omega) (by omega)]; omega)), (by show c1 = nwr gC a1; simp only [nwr]; rw [if_neg (by omega), if_neg (by omega)]; exact Int32.toInt_inj.mp (by rw [q_add (by omega) (by omega)]; omega)), (by show 0 ≤ c1.toInt; omega), (by show c1.toInt ≤ 400; omega)⟩ dX10_write_80
      have lp62 : ∀ (kk62 : Nat) (yk : Int32) (c1 : Int32) (t1 : Nat → Int32) (H1 : Heap) (locs1 : List Loc) (ls1 : Array Slot), yk.toInt + 1 ≤ (kk62 : Int) → (-1 ≤ yk.toInt) → (yk.toInt < a1.toInt) → (c1.toInt = gC.toInt + a1.toInt - 1 - yk.toInt) → tG D (mF cI cL cC c1 gE gW gA t1 gI gS gM K F S N gH gJ ge gk gf gs gg gr RN) t H1 → tF t wT s.heap H1 locs1 → lv_has ls1 5 [(4, .int yk), (0, .ref a0), (1, .int a1), (2, .long a2)] → WW62 H1 locs1 (F0 m 34 ls1 []) := by
        intro kk62
        induction kk62 with
        | zero =>
          intro yk c1 t1 H locs ls hk62 v62_0 v62_1 v62_2 hG hS hl
          refine (hWW62 _ _ _).mpr ?_
          refine lv_iload hx hb dX10_write_34 (lv_at hl 0 rfl) ?_
          refine lv_if_lt (tgt := 76) hx hb dX10_write_36 (by decide) (fun c_112 => ?_) (fun c_112 => ?_)
          · skip
            have c_112 : yk.toInt < 0 := q_lt c_112
            exact (hWW62 _ _ _).mp (kx62 yk c1 t1 H locs ls v62_0 v62_1 v62_2 (by omega) hG hS (lv_sub hl [0, 1, 2, 3] rfl))
          · skip
            have c_112 : 0 ≤ yk.toInt := q_nlt c_112
            exfalso; omega
        | succ kk62 ih62 =>
          intro yk c1 t1 H locs ls hk62 v62_0 v62_1 v62_2 hG hS hl
          refine (hWW62 _ _ _).mpr ?_
          refine lv_iload hx hb dX10_write_34 (lv_at hl 0 rfl) ?_
          refine lv_if_lt (tgt := 76) hx hb dX10_write_36 (by decide) (fun c_113 => ?_) (fun c_113 => ?_)
          · skip
            have c_113 : yk.toInt < 0 := q_lt c_113
            exact (hWW62 _ _ _).mp (kx62 yk c1 t1 H locs ls v62_0 v62_1 v62_2 (by omega) hG hS (lv_sub hl [0, 1, 2, 3] rfl))
          · skip
            have c_113 : 0 ≤ yk.toInt := q_nlt c_113
            refine lv_pc (pc2 := 39) rfl ?_
            refine lv_aload_n hx hb dX10_write_39 rfl (lv_at hl 1 rfl) ?_
            obtain ⟨r_114, v_116, r_117, r_119, r_121, r_123, r_125, r_127, r_129, r_131, r_133, r_135, r_137, r_139, r_141, r_143, r_145, r_147, r_149, r_151, r_153, r_155, r_157, v_159, r_160, at_162, h_115, h_118, h_120, h_122, h_124, h_126, h_128, h_130, h_132, h_134, h_136, h_138, h_140, h_142, h_144, h_146, h_148, h_150, h_152, h_154, h_156, h_158, h_161⟩ := mF_o40 hG k_a0
            refine va_get (D := D) (ci := 9) (v := .ref r_114) (C := RX10) (T := TX10) (N := 36) hx hb hts in10 hown hK (va_one at_162) 0 rfl rfl 1 (by decide) (hts (.fieldLink RX10 7 "RiverModelModel" "text" "[I") (List.mem_of_getElem? (i := 6) rfl)) (fun _ h9 => h9) rfl dX10_write_40 ?_
            refine lv_aload_n hx hb dX10_write_43 rfl (lv_at hl 1 rfl) ?_
            refine va_get (D := D) (ci := 9) (v := .int c1) (C := RX10) (T := TX10) (N := 36) hx hb hts in10 hown hK (va_one at_162) 0 rfl rfl 0 (by decide) (hts (.fieldLink RX10 89 "RiverModelModel" "length" "I") (List.mem_of_getElem? (i := 5) rfl)) (fun _ h9 => h9) rfl dX10_write_44 ?_
            refine lv_lload_n hx hb dX10_write_47 rfl (lv_at hl 3 rfl) ?_
            refine lv_bipush (v := 8) hx hb dX10_write_48 (by decide) ?_
            refine lv_iload hx hb dX10_write_50 (lv_at hl 0 rfl) ?_
            refine lv_imul hx hb dX10_write_52 ?_
            refine lv_topi (fun x_163 e_164 => ?_)
            have i_x_163 : x_163.toInt = 8 * yk.toInt := by rw [e_164]; exact (q_mul (by rw [show (8 : Int32).toInt = 8 by decide]; omega) (by rw [show (8 : Int32).toInt = 8 by decide]; omega)).trans (by rw [show (8 : Int32).toInt = 8 by decide])
            refine lv_pc (pc2 := 53) rfl ?_
            refine lv_lshr hx hb dX10_write_53 rfl ?_
            refine lv_topl (fun z_165 e_166 => ?_)
            refine lv_ldc2 hx hb hown (hts (.constantLong RX10 93 (255)) (List.mem_of_getElem? (i := 7) rfl)) dX10_write_54 ?_
            refine lv_land hx hb dX10_write_57 ?_
            refine lv_topl (fun z_167 e_168 => ?_)
            refine lv_l2i (v := z_167.toInt32) hx hb dX10_write_58 rfl ?_
            refine lv_topi (fun x_169 e_170 => ?_)
            have at_171 := mF_o41 hG h_115
            have b_172 : vp_in c1 400 := (q_in (by omega) (by omega))
            obtain ⟨q_173, eq_173⟩ : ∃ q : Nat → Int32, q = upd t1 c1.toNatClampNeg x_169 := ⟨_, rfl⟩
            refine ty_iast (F2 := (mF cI cL cC c1 gE gW gA q_173 gI gS gM K F S N gH gJ ge gk gf gs gg gr RN)) hx hb hK hG hS 0 at_171 (by rw [h_115]; rfl) rfl b_172 (by rw [h_115]; show _ = _; rw [eq_173]) (fun hG b hb h0 => by obtain ⟨e, g1, g2⟩ := hG b h0; exact ⟨e, g1, mF_gT (fun h => hb (uq b r_114 (h.trans h_115.symm) h0)) g2⟩) dX10_write_59 (fun H locs hG hS at_174 o_175 => ?_)
            have at_162 := va_at.keptK at_162 o_175 h_115 k_a0 rfl
            refine lv_aload_n hx hb dX10_write_60 rfl (lv_at hl 1 rfl) ?_
            refine lv_dup hx hb dX10_write_61 rfl ?_
            refine va_get (D := D) (ci := 9) (v := .int c1) (C := RX10) (T := TX10) (N := 36) hx hb hts in10 hown hK (va_one at_162) 0 rfl rfl 0 (by decide) (hts (.fieldLink RX10 89 "RiverModelModel" "length" "I") (List.mem_of_getElem? (i := 5) rfl)) (fun _ h9 => h9) rfl dX10_write_62 ?_
            refine lv_pc (pc2 := 65) rfl ?_
            refine lv_iconst (v := 1) hx hb dX10_write_65 (by decide) ?_
            refine lv_iadd hx hb dX10_write_66 ?_
            refine lv_topi (fun x_176 e_177 => ?_)
            have i_x_176 : x_176.toInt = c1.toInt + 1 := by rw [e_177]; exact (q_add (by rw [show (1 : Int32).toInt = 1 by decide]; omega) (by rw [show (1 : Int32).toInt = 1 by decide]; omega)).trans (by rw [show (1 : Int32).toInt = 1 by decide])
            refine ty_put (D := D) (ci := 9) (v := .int x_176) (ty := .int) (C := RX10) (T := TX10) (N := 36) (F2 := (mF cI cL cC x_176 gE gW gA q_173 gI gS gM K F S N gH gJ ge gk gf gs gg gr RN)) hx hb hts in10 tyX10 tyX10_ok nmX10 hown hK hG hS at_162 (by rw [k_a0]; rfl) rfl 0 (by decide) (hts (.fieldLink RX10 89 "RiverModelModel" "length" "I") (List.mem_of_getElem? (i := 5) rfl)) (fun _ h9 => h9) rfl (by decide +kernel) rfl rfl (Nat.le_of_ble_eq_true rfl) (by rw [k_a0]; exact ⟨r_114, v_116, r_117, r_119, r_121, r_123, r_125, r_127, r_129, r_131, r_133, r_135, r_137, r_139, r_141, r_143, r_145, r_147, r_149, r_151, r_153, r_155, r_157, v_159, r_160, rfl, h_115, h_118, h_120, h_122, h_124, h_126, h_128, h_130, h_132, h_134, h_136, h_138, h_140, h_142, h_144, h_146, h_148, h_150, h_152, h_154, h_156, h_158, h_161⟩) (fun hG b hb h0 => by obtain ⟨e, g1, g2⟩ := hG b h0; exact ⟨e, g1, mF_gC (fun h => hb (uq b a0 (h.trans k_a0.symm) h0)) g2⟩) dX10_write_67 (fun H locs hG hS at_178 o_179 => ?_)
            have at_178 : va_at D vwCl (a0, .inr (9, [.int x_176, .ref r_114, .int v_116, .int gI, .ref r_117, .ref r_119, .ref r_121, .ref r_123, .int gS, .ref r_125, .ref r_127, .ref r_129, .ref r_131, .int gM, .ref r_133, .ref r_135, .ref r_137, .int gE, .ref r_139, .ref r_141, .ref r_143, .ref r_145, .ref r_147, .ref r_149, .ref r_151, .ref r_153, .ref r_155, .int ge, .int gk, .int gf, .int gs, .int gg, .ref r_157, .int gr, .int v_159, .ref r_160])) H := at_178
            obtain ⟨x_180, e_181⟩ : ∃ y : Int32, y = yk + Int32.ofInt (-1) := ⟨_, rfl⟩
            have i_x_180 : x_180.toInt = yk.toInt + (-1) := by rw [e_181, show Int32.ofInt (-1) = (-1) by decide]; exact (q_add (by rw [show ((-1) : Int32).toInt = (-1) by decide]; omega) (by rw [show ((-1) : Int32).toInt = (-1) by decide]; omega)).trans (by rw [show ((-1) : Int32).toInt = (-1) by decide])
            refine lv_iinc (v := x_180) (lv' := [(4, .int x_180), (0, .ref a0), (1, .int a1), (2, .long a2)]) hx hb dX10_write_70 hl (k := 0) rfl e_181.symm (by decide) rfl (fun ls hl => ?_)
            refine lv_goto (tgt := 34) hx hb dX10_write_73 (by decide) ?_
            exact (hWW62 _ _ _).mp (ih62 x_180 x_176 q_173 H locs ls (by omega) (by omega) (by omega) (by omega) hG hS (lv_sub hl [0, 1, 2, 3] rfl))
      exact lp62 (x_60.toInt + 1 : Int).toNat x_60 gC gT H locs ls (by omega) (by omega) (by omega) (by omega) hG hS (lv_sub hl [0, 1, 2, 3] rfl)
    · skip
      have c_59 : 400 < x_57.toInt := q_nle c_59
      refine lv_bipush (v := (-3)) hx hb dX10_write_26 (by decide) ?_
      have zi_m3 : ((-3) : Int32).toInt = (-3) := by decide
      exact tx_iret (z := (gC, gT)) hx hb hr hlk hG hS ⟨(by show ((-3) : Int32) = awr gC a1; simp only [awr]; first | (rw [if_pos (by omega)]; done) | (rw [if_neg (by omega)]; done) | (rw [if_neg (by omega), if_pos (by omega)]; done) | (rw [if_neg (by omega), if_neg (by omega)]; done)), (by show gC = nwr gC a1; simp only [nwr]; first | (rw [if_pos (by omega)]; done) | (rw [if_neg (by omega)]; done) | (rw [if_neg (by omega), if_pos (by omega)]; done) | (rw [if_neg (by omega), if_neg (by omega)]; done)), (by show 0 ≤ gC.toInt; omega), (by show gC.toInt ≤ 400; omega)⟩ dX10_write_28
  · skip
    refine lv_if_ne (tgt := 14) hx hb dX10_write_9 (by decide) (fun q => absurd rfl q) (fun _ => ?_)
    refine lv_pc (pc2 := 12) rfl ?_
    refine lv_iconst (v := (-1)) hx hb dX10_write_12 (by decide) ?_
    have zi_m1 : ((-1) : Int32).toInt = (-1) := by decide
    exact tx_iret (z := (gC, gT)) hx hb hr hlk hG hS ⟨(by show ((-1) : Int32) = awr gC a1; simp only [awr]; first | (rw [if_pos (by omega)]; done) | (rw [if_neg (by omega)]; done) | (rw [if_neg (by omega), if_pos (by omega)]; done) | (rw [if_neg (by omega), if_neg (by omega)]; done)), (by show gC = nwr gC a1; simp only [nwr]; first | (rw [if_pos (by omega)]; done) | (rw [if_neg (by omega)]; done) | (rw [if_neg (by omega), if_pos (by omega)]; done) | (rw [if_neg (by omega), if_neg (by omega)]; done)), (by show 0 ≤ gC.toInt; omega), (by show gC.toInt ≤ 400; omega)⟩ dX10_write_13
