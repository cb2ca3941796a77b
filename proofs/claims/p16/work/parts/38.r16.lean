theorem dX10_write_0 : decode cX10_write 0 = .ok (.iload_n 1, 1) := by decide +kernel
theorem dX10_write_1 : decode cX10_write 1 = .ok (.i2l, 1) := by decide +kernel
theorem dX10_write_2 : decode cX10_write 2 = .ok (.lconst 1, 1) := by decide +kernel
theorem dX10_write_3 : decode cX10_write 3 = .ok (.ldc2_w 83, 3) := by decide +kernel
theorem dX10_write_6 : decode cX10_write 6 = .ok (.invokestatic 85, 3) := by decide +kernel
theorem dX10_write_9 : decode cX10_write 9 = .ok (.ifCond .ne 5, 3) := by decide +kernel
theorem dX10_write_12 : decode cX10_write 12 = .ok (.iconst (-1), 1) := by decide +kernel
theorem dX10_write_13 : decode cX10_write 13 = .ok (.ireturn, 1) := by decide +kernel
theorem dX10_write_14 : decode cX10_write 14 = .ok (.aload_n 0, 1) := by decide +kernel
theorem dX10_write_15 : decode cX10_write 15 = .ok (.getfield 89, 3) := by decide +kernel
theorem dX10_write_18 : decode cX10_write 18 = .ok (.iload_n 1, 1) := by decide +kernel
theorem dX10_write_19 : decode cX10_write 19 = .ok (.iadd, 1) := by decide +kernel
theorem dX10_write_20 : decode cX10_write 20 = .ok (.sipush 400, 3) := by decide +kernel
theorem dX10_write_23 : decode cX10_write 23 = .ok (.if_icmp .le 6, 3) := by decide +kernel
theorem dX10_write_26 : decode cX10_write 26 = .ok (.bipush (-3), 2) := by decide +kernel
theorem dX10_write_28 : decode cX10_write 28 = .ok (.ireturn, 1) := by decide +kernel
theorem dX10_write_29 : decode cX10_write 29 = .ok (.iload_n 1, 1) := by decide +kernel
theorem dX10_write_30 : decode cX10_write 30 = .ok (.iconst 1, 1) := by decide +kernel
theorem dX10_write_31 : decode cX10_write 31 = .ok (.isub, 1) := by decide +kernel
theorem dX10_write_32 : decode cX10_write 32 = .ok (.istore 4, 2) := by decide +kernel
theorem dX10_write_34 : decode cX10_write 34 = .ok (.iload 4, 2) := by decide +kernel
theorem dX10_write_36 : decode cX10_write 36 = .ok (.ifCond .lt 40, 3) := by decide +kernel
theorem dX10_write_39 : decode cX10_write 39 = .ok (.aload_n 0, 1) := by decide +kernel
theorem dX10_write_40 : decode cX10_write 40 = .ok (.getfield 7, 3) := by decide +kernel
theorem dX10_write_43 : decode cX10_write 43 = .ok (.aload_n 0, 1) := by decide +kernel
theorem dX10_write_44 : decode cX10_write 44 = .ok (.getfield 89, 3) := by decide +kernel
theorem dX10_write_47 : decode cX10_write 47 = .ok (.lload_n 2, 1) := by decide +kernel
theorem dX10_write_48 : decode cX10_write 48 = .ok (.bipush 8, 2) := by decide +kernel
theorem dX10_write_50 : decode cX10_write 50 = .ok (.iload 4, 2) := by decide +kernel
theorem dX10_write_52 : decode cX10_write 52 = .ok (.imul, 1) := by decide +kernel
theorem dX10_write_53 : decode cX10_write 53 = .ok (.lshr, 1) := by decide +kernel
theorem dX10_write_54 : decode cX10_write 54 = .ok (.ldc2_w 93, 3) := by decide +kernel
theorem dX10_write_57 : decode cX10_write 57 = .ok (.land, 1) := by decide +kernel
theorem dX10_write_58 : decode cX10_write 58 = .ok (.l2i, 1) := by decide +kernel
theorem dX10_write_59 : decode cX10_write 59 = .ok (.iastore, 1) := by decide +kernel
theorem dX10_write_60 : decode cX10_write 60 = .ok (.aload_n 0, 1) := by decide +kernel
theorem dX10_write_61 : decode cX10_write 61 = .ok (.dup, 1) := by decide +kernel
theorem dX10_write_62 : decode cX10_write 62 = .ok (.getfield 89, 3) := by decide +kernel
theorem dX10_write_65 : decode cX10_write 65 = .ok (.iconst 1, 1) := by decide +kernel
theorem dX10_write_66 : decode cX10_write 66 = .ok (.iadd, 1) := by decide +kernel
theorem dX10_write_67 : decode cX10_write 67 = .ok (.putfield 89, 3) := by decide +kernel
theorem dX10_write_70 : decode cX10_write 70 = .ok (.iinc 4 (-1), 3) := by decide +kernel
theorem dX10_write_73 : decode cX10_write 73 = .ok (.goto (-39), 3) := by decide +kernel
theorem dX10_write_76 : decode cX10_write 76 = .ok (.aload_n 0, 1) := by decide +kernel
theorem dX10_write_77 : decode cX10_write 77 = .ok (.getfield 89, 3) := by decide +kernel
theorem dX10_write_80 : decode cX10_write 80 = .ok (.ireturn, 1) := by decide +kernel
theorem dX10_clear_0 : decode cX10_clear 0 = .ok (.aload_n 0, 1) := by decide +kernel
theorem dX10_clear_1 : decode cX10_clear 1 = .ok (.getfield 89, 3) := by decide +kernel
theorem dX10_clear_4 : decode cX10_clear 4 = .ok (.istore_n 1, 1) := by decide +kernel
theorem dX10_clear_5 : decode cX10_clear 5 = .ok (.aload_n 0, 1) := by decide +kernel
theorem dX10_clear_6 : decode cX10_clear 6 = .ok (.iconst 0, 1) := by decide +kernel
theorem dX10_clear_7 : decode cX10_clear 7 = .ok (.putfield 89, 3) := by decide +kernel
theorem dX10_clear_10 : decode cX10_clear 10 = .ok (.iload_n 1, 1) := by decide +kernel
theorem dX10_clear_11 : decode cX10_clear 11 = .ok (.ireturn, 1) := by decide +kernel
def uX10_clear : List Cond := .code yX10_clear cX10_clear 2 (some .int) :: ([.fieldLink RX10 89 "RiverModelModel" "length" "I"] ++ wsX100)
set_option maxHeartbeats 4000000 in
set_option maxRecDepth 100000 in
theorem m_X10_clear (l : Launch) (D : va_G) (t : Nat → Nat) (cI cL cC : ClassId) (gC : Int32) (gE : Int32) (gW : Nat → Int32) (gA : Nat → Int32) (gT : Nat → Int32) (gI : Int32) (gS : Int32) (gM : Int32) (K : Nat → Int32) (F : Nat → Int32) (S : Nat → Int32) (N : Nat → Int32) (gH : Int) (gJ : Int) (ge : Int32) (gk : Int32) (gf : Int32) (gs : Int32) (gg : Int32) (gr : Int32) (RN : Nat → Int32) (gb : Int32) (rV : Nat → Int32) (rN : Nat → Int32) (a0 : Nat) (uq : ∀ b c : Nat, t b = t c → t b ≠ 0 → b = c) (hC0 : 0 ≤ gC.toInt) (hC4 : gC.toInt ≤ 400) (hI0 : 0 ≤ gI.toInt) (hI4 : gI.toInt ≤ 40) (hH0 : 0 ≤ gH) (hH9 : gH ≤ 96) (hm0 : 0 ≤ gM.toInt) (hm3 : gM.toInt ≤ 3) (hO0 : okM K F S N 0 gI.toInt) (hW : swM gS K F S N gI.toInt) (hoR : othR gb gS gI K F) (k_a0 : t a0 = 40) : tMx (Z := (Int32)) l yX10_clear uX10_clear 0 0 D (mF cI cL cC gC gE gW gA gT gI gS gM K F S N gH gJ ge gk gf gs gg gr RN gb rV rN) (fun z => (mF cI cL cC z gE gW gA gT gI gS gM K F S N gH gJ ge gk gf gs gg gr RN gb rV rN)) t cI cL cC [.ref a0] w40 (xI (fun r (z : (Int32)) => r = gC ∧ z = 0 ∧ 0 ≤ z.toInt ∧ z.toInt ≤ 400)) := by
  refine tMx.ofW (cc := cX10_clear) (maxL := 2) (ret := (some .int)) (by decide) rfl (Nat.le_of_ble_eq_true rfl) ?_
  intro p e s m below meth c hx hb hr hml hown hts hlk H locs hG hK hE hS ls hl
  have hl : lv_has ls 2 [(0, .ref a0)] := hl
  have in10 : ∀ w ∈ wsX100, w ∈ uX10_clear := fun w h => List.mem_cons_of_mem _ (List.mem_append_right _ h)
  refine lv_aload_n hx hb dX10_clear_0 rfl (lv_at hl 0 rfl) ?_
  obtain ⟨r_1, r_3, r_5, r_7, r_9, r_11, r_13, r_15, r_17, r_19, r_21, r_23, r_25, r_27, r_29, r_31, r_33, r_35, r_37, r_39, r_41, r_43, v_45, r_46, at_48, h_2, h_4, h_6, h_8, h_10, h_12, h_14, h_16, h_18, h_20, h_22, h_24, h_26, h_28, h_30, h_32, h_34, h_36, h_38, h_40, h_42, h_44, h_47⟩ := mF_o40 hG k_a0
  refine va_get (D := D) (ci := 9) (v := .int gC) (C := RX10) (T := TX10) (N := 36) hx hb hts in10 hown hK (va_one at_48) 0 rfl rfl 0 (by decide) (hts (.fieldLink RX10 89 "RiverModelModel" "length" "I") (List.mem_of_getElem? (i := 1) rfl)) (fun _ h9 => h9) rfl dX10_clear_1 ?_
  refine lv_istore_n (lv' := [(1, .int gC), (0, .ref a0)]) hx hb dX10_clear_4 rfl hl (by decide) rfl (fun ls hl => ?_)
  refine lv_aload_n hx hb dX10_clear_5 rfl (lv_at hl 1 rfl) ?_
  refine lv_iconst (v := 0) hx hb dX10_clear_6 (by decide) ?_
  have zi_0 : (0 : Int32).toInt = 0 := by decide
  refine ty_put (D := D) (ci := 9) (v := .int 0) (ty := .int) (C := RX10) (T := TX10) (N := 36) (F2 := (mF cI cL cC 0 gE gW gA gT gI gS gM K F S N gH gJ ge gk gf gs gg gr RN gb rV rN)) hx hb hts in10 tyX10 tyX10_ok nmX10 hown hK hG hS at_48 (by rw [k_a0]; rfl) rfl 0 (by decide) (hts (.fieldLink RX10 89 "RiverModelModel" "length" "I") (List.mem_of_getElem? (i := 1) rfl)) (fun _ h9 => h9) rfl (by decide +kernel) rfl rfl (Nat.le_of_ble_eq_true rfl) (by rw [k_a0]; exact ⟨r_1, r_3, r_5, r_7, r_9, r_11, r_13, r_15, r_17, r_19, r_21, r_23, r_25, r_27, r_29, r_31, r_33, r_35, r_37, r_39, r_41, r_43, v_45, r_46, rfl, h_2, h_4, h_6, h_8, h_10, h_12, h_14, h_16, h_18, h_20, h_22, h_24, h_26, h_28, h_30, h_32, h_34, h_36, h_38, h_40, h_42, h_44, h_47⟩) (fun hG b hb h0 => by obtain ⟨e, g1, g2⟩ := hG b h0; exact ⟨e, g1, mF_gC (fun h => hb (uq b a0 (h.trans k_a0.symm) h0)) g2⟩) dX10_clear_7 (fun H locs hG hS at_49 o_50 => ?_)
  have at_49 : va_at D vwCl (a0, .inr (9, [.int 0, .ref r_1, .int gb, .int gI, .ref r_3, .ref r_5, .ref r_7, .ref r_9, .int gS, .ref r_11, .ref r_13, .ref r_15, .ref r_17, .int gM, .ref r_19, .ref r_21, .ref r_23, .int gE, .ref r_25, .ref r_27, .ref r_29, .ref r_31, .ref r_33, .ref r_35, .ref r_37, .ref r_39, .ref r_41, .int ge, .int gk, .int gf, .int gs, .int gg, .ref r_43, .int gr, .int v_45, .ref r_46])) H := at_49
  refine lv_iload_n hx hb dX10_clear_10 rfl (lv_at hl 0 rfl) ?_
  refine lv_pc (pc2 := 11) rfl ?_
  exact tx_iret (z := (0)) hx hb hr hlk hG hS ⟨(show gC = gC from rfl), (show (0 : Int32) = 0 from rfl), (by show 0 ≤ (0 : Int32).toInt; omega), (by show (0 : Int32).toInt ≤ 400; omega)⟩ dX10_clear_11

def uX10_write : List Cond := .code yX10_write cX10_write 5 (some .int) :: ([.constantLong RX10 83 (8), .methodLink RX10 85 yX10_in, .static yX10_in, .initialized RX10, .fieldLink RX10 89 "RiverModelModel" "length" "I", .fieldLink RX10 7 "RiverModelModel" "text" "[I", .constantLong RX10 93 (255), .code yX10_in cX10_in 6 (some .boolean)] ++ wsX100)
set_option maxRecDepth 20000 in
theorem gu_X10_write_X10_in_85 : GoodIn uX10_write (va_wsS RX10 85 yX10_in uX10_in) := goodIn_r _ [2, 3, 4, 8] rfl (by decide +kernel)
set_option maxHeartbeats 4000000 in
set_option maxRecDepth 100000 in
theorem m_X10_write (l : Launch) (D : va_G) (t : Nat → Nat) (cI cL cC : ClassId) (gC : Int32) (gE : Int32) (gW : Nat → Int32) (gA : Nat → Int32) (gT : Nat → Int32) (gI : Int32) (gS : Int32) (gM : Int32) (K : Nat → Int32) (F : Nat → Int32) (S : Nat → Int32) (N : Nat → Int32) (gH : Int) (gJ : Int) (ge : Int32) (gk : Int32) (gf : Int32) (gs : Int32) (gg : Int32) (gr : Int32) (RN : Nat → Int32) (gb : Int32) (rV : Nat → Int32) (rN : Nat → Int32) (a0 : Nat) (a1 : Int32) (a2 : Int64) (uq : ∀ b c : Nat, t b = t c → t b ≠ 0 → b = c) (hC0 : 0 ≤ gC.toInt) (hC4 : gC.toInt ≤ 400) (hI0 : 0 ≤ gI.toInt) (hI4 : gI.toInt ≤ 40) (hH0 : 0 ≤ gH) (hH9 : gH ≤ 96) (hm0 : 0 ≤ gM.toInt) (hm3 : gM.toInt ≤ 3) (hO0 : okM K F S N 0 gI.toInt) (hW : swM gS K F S N gI.toInt) (hoR : othR gb gS gI K F) (k_a0 : t a0 = 40) : tMx (Z := (Int32) × (Nat → Int32)) l yX10_write uX10_write 1 25 D (mF cI cL cC gC gE gW gA gT gI gS gM K F S N gH gJ ge gk gf gs gg gr RN gb rV rN) (fun z => (mF cI cL cC z.1 gE gW gA z.2 gI gS gM K F S N gH gJ ge gk gf gs gg gr RN gb rV rN)) t cI cL cC [.ref a0, .int a1, .long a2] wT (xI (fun r (z : (Int32) × (Nat → Int32)) => r = awr gC a1 ∧ z.1 = nwr gC a1 ∧ 0 ≤ z.1.toInt ∧ z.1.toInt ≤ 400 ∧ z.2 = nwT gT gC a1 a2)) := by
  refine tMx.ofW (cc := cX10_write) (maxL := 5) (ret := (some .int)) (by decide) rfl (Nat.le_of_ble_eq_true rfl) ?_
  intro p e s m below meth c hx hb hr hml hown hts hlk H locs hG hK hE hS ls hl
  have hl : lv_has ls 5 [(0, .ref a0), (1, .int a1), (2, .long a2)] := hl
  have in10 : ∀ w ∈ wsX100, w ∈ uX10_write := fun w h => List.mem_cons_of_mem _ (List.mem_append_right _ h)
  refine lv_iload_n hx hb dX10_write_0 rfl (lv_at hl 1 rfl) ?_
  refine lv_i2l (v := a1.toInt64) hx hb dX10_write_1 rfl ?_
  refine lv_lconst (v := 1) hx hb dX10_write_2 (by decide) ?_
  refine lv_ldc2 hx hb hown (hts (.constantLong RX10 83 (8)) (List.mem_of_getElem? (i := 1) rfl)) dX10_write_3 ?_
  have zl_1 : (1 : Int64).toInt = 1 := by decide
  have zl_8 : (8 : Int64).toInt = 8 := by decide
  refine ty_calli (W.runS (As := [.long a1.toInt64, .long 1, .long 8]) (rest := []) ⟨hx, hb, hml, hown, hts⟩ (m_X10_in l D t cI cL cC gC gE gW gA gT gI gS gM K F S N gH gJ ge gk gf gs gg gr RN gb rV rN a1.toInt64 1 8 a1.toInt 1 8 uq (q_i2l _) (by decide) (by decide) ) (va_cwS 3 hts gu_X10_write_X10_in_85 rfl rfl rfl (by decide +kernel) ⟨Nat.le_of_ble_eq_true rfl, Nat.le_of_ble_eq_true rfl⟩) (tP_S hG hE) rfl rfl hl.1 rfl (lv_room (Nat.le_of_ble_eq_true rfl)) dX10_write_6 ⟨Nat.le_of_ble_eq_true rfl, Nat.le_of_ble_eq_true rfl⟩) hS (fun k h => by simp [wr0] at h) (fun r_1 H locs hp_2 hG hS o_3 => ?_)
  have hp_2 : (r_1 = 1 ∧ 1 ≤ a1.toInt ∧ a1.toInt ≤ 8) ∨ (r_1 = 0 ∧ (a1.toInt < 1 ∨ 8 < a1.toInt)) := hp_2
  rcases hp_2 with ⟨rfl, p_5, p_6⟩ | ⟨rfl, p_7⟩
  · skip
    refine lv_if_ne (tgt := 14) hx hb dX10_write_9 (by decide) (fun _ => ?_) (fun q => absurd q (by decide))
    refine lv_aload_n hx hb dX10_write_14 rfl (lv_at hl 0 rfl) ?_
    refine lv_pc (pc2 := 15) rfl ?_
    obtain ⟨r_8, r_10, r_12, r_14, r_16, r_18, r_20, r_22, r_24, r_26, r_28, r_30, r_32, r_34, r_36, r_38, r_40, r_42, r_44, r_46, r_48, r_50, v_52, r_53, at_55, h_9, h_11, h_13, h_15, h_17, h_19, h_21, h_23, h_25, h_27, h_29, h_31, h_33, h_35, h_37, h_39, h_41, h_43, h_45, h_47, h_49, h_51, h_54⟩ := mF_o40 hG k_a0
    refine va_get (D := D) (ci := 9) (v := .int gC) (C := RX10) (T := TX10) (N := 36) hx hb hts in10 hown hK (va_one at_55) 0 rfl rfl 0 (by decide) (hts (.fieldLink RX10 89 "RiverModelModel" "length" "I") (List.mem_of_getElem? (i := 5) rfl)) (fun _ h9 => h9) rfl dX10_write_15 ?_
    refine lv_iload_n hx hb dX10_write_18 rfl (lv_at hl 1 rfl) ?_
    refine lv_iadd hx hb dX10_write_19 ?_
    refine lv_topi (fun x_56 e_57 => ?_)
    have i_x_56 : x_56.toInt = gC.toInt + a1.toInt := by rw [e_57]; exact (q_add (by omega) (by omega)).trans (by rfl)
    refine lv_sipush (v := 400) hx hb dX10_write_20 (by decide) ?_
    refine lv_icmp_le (tgt := 29) hx hb dX10_write_23 (by decide) (fun c_58 => ?_) (fun c_58 => ?_)
    · skip
      have c_58 : x_56.toInt ≤ 400 := q_le c_58
      refine lv_iload_n hx hb dX10_write_29 rfl (lv_at hl 1 rfl) ?_
      refine lv_iconst (v := 1) hx hb dX10_write_30 (by decide) ?_
      refine lv_isub hx hb dX10_write_31 ?_
      refine lv_topi (fun x_59 e_60 => ?_)
      have i_x_59 : x_59.toInt = a1.toInt - 1 := by rw [e_60]; exact (q_sub (by rw [show (1 : Int32).toInt = 1 by decide]; omega) (by rw [show (1 : Int32).toInt = 1 by decide]; omega)).trans (by rw [show (1 : Int32).toInt = 1 by decide])
      refine lv_pc (pc2 := 32) rfl ?_
      refine lv_istore (lv' := [(4, .int x_59), (0, .ref a0), (1, .int a1), (2, .long a2)]) hx hb dX10_write_32 hl (by decide) rfl (fun ls hl => ?_)
      refine lv_pc (pc2 := 34) rfl ?_
      refine lp_gen (fun WW61 hWW61 => ?_)
      have kx61 : ∀ (yk : Int32) (c1 : Int32) (t1 : Nat → Int32) (H1 : Heap) (locs1 : List Loc) (ls1 : Array Slot), (-1 ≤ yk.toInt) → (yk.toInt < a1.toInt) → (c1.toInt = gC.toInt + a1.toInt - 1 - yk.toInt) → (wriB a2 (yk.toInt + 1).toNat t1 c1.toInt.toNat = wriB a2 a1.toInt.toNat gT gC.toInt.toNat) → (yk.toInt < 0) → tG D (mF cI cL cC c1 gE gW gA t1 gI gS gM K F S N gH gJ ge gk gf gs gg gr RN gb rV rN) t H1 → tF t wT s.heap H1 locs1 → lv_has ls1 5 [(4, .int yk), (0, .ref a0), (1, .int a1), (2, .long a2)] → WW61 H1 locs1 (F0 m 76 ls1 []) := by
        intro yk c1 t1 H locs ls v61_0 v61_1 v61_2 v61_3 xf61_0 hG hS hl
        refine (hWW61 _ _ _).mpr ?_
        refine lv_aload_n hx hb dX10_write_76 rfl (lv_at hl 1 rfl) ?_
        obtain ⟨r_62, r_64, r_66, r_68, r_70, r_72, r_74, r_76, r_78, r_80, r_82, r_84, r_86, r_88, r_90, r_92, r_94, r_96, r_98, r_100, r_102, r_104, v_106, r_107, at_109, h_63, h_65, h_67, h_69, h_71, h_73, h_75, h_77, h_79, h_81, h_83, h_85, h_87, h_89, h_91, h_93, h_95, h_97, h_99, h_101, h_103, h_105, h_108⟩ := mF_o40 hG k_a0
        refine va_get (D := D) (ci := 9) (v := .int c1) (C := RX10) (T := TX10) (N := 36) hx hb hts in10 hown hK (va_one at_109) 0 rfl rfl 0 (by decide) (hts (.fieldLink RX10 89 "RiverModelModel" "length" "I") (List.mem_of_getElem? (i := 5) rfl)) (fun _ h9 => h9) rfl dX10_write_77 ?_
        exact tx_iret (z := (c1, t1)) hx hb hr hlk hG hS ⟨(by show c1 = awr gC a1; simp only [awr]; rw [if_neg (by omega), if_neg (by omega)]; exact Int32.toInt_inj.mp (by rw [q_add (by omega) (by omega)]; omega)), (by show c1 = nwr gC a1; simp only [nwr]; rw [if_neg (by omega), if_neg (by omega)]; exact Int32.toInt_inj.mp (by rw [q_add (by omega) (by omega)]; omega)), (by show 0 ≤ c1.toInt; omega), (by show c1.toInt ≤ 400; omega), (by show t1 = nwT gT gC a1 a2; unfold nwT; rw [if_neg (by omega), if_neg (by omega)]; exact wriB.done v61_3 (by omega))⟩ dX10_write_80
      have lp61 : ∀ (kk61 : Nat) (yk : Int32) (c1 : Int32) (t1 : Nat → Int32) (H1 : Heap) (locs1 : List Loc) (ls1 : Array Slot), yk.toInt + 1 ≤ (kk61 : Int) → (-1 ≤ yk.toInt) → (yk.toInt < a1.toInt) → (c1.toInt = gC.toInt + a1.toInt - 1 - yk.toInt) → (wriB a2 (yk.toInt + 1).toNat t1 c1.toInt.toNat = wriB a2 a1.toInt.toNat gT gC.toInt.toNat) → tG D (mF cI cL cC c1 gE gW gA t1 gI gS gM K F S N gH gJ ge gk gf gs gg gr RN gb rV rN) t H1 → tF t wT s.heap H1 locs1 → lv_has ls1 5 [(4, .int yk), (0, .ref a0), (1, .int a1), (2, .long a2)] → WW61 H1 locs1 (F0 m 34 ls1 []) := by
        intro kk61
        induction kk61 with
        | zero =>
          intro yk c1 t1 H locs ls hk61 v61_0 v61_1 v61_2 v61_3 hG hS hl
          refine (hWW61 _ _ _).mpr ?_
          refine lv_iload hx hb dX10_write_34 (lv_at hl 0 rfl) ?_
          refine lv_if_lt (tgt := 76) hx hb dX10_write_36 (by decide) (fun c_110 => ?_) (fun c_110 => ?_)
          · skip
            have c_110 : yk.toInt < 0 := q_lt c_110
            exact (hWW61 _ _ _).mp (kx61 yk c1 t1 H locs ls v61_0 v61_1 v61_2 v61_3 (by omega) hG hS (lv_sub hl [0, 1, 2, 3] rfl))
          · skip
            have c_110 : 0 ≤ yk.toInt := q_nlt c_110
            exfalso; omega
        | succ kk61 ih61 =>
          intro yk c1 t1 H locs ls hk61 v61_0 v61_1 v61_2 v61_3 hG hS hl
          refine (hWW61 _ _ _).mpr ?_
          refine lv_iload hx hb dX10_write_34 (lv_at hl 0 rfl) ?_
          refine lv_if_lt (tgt := 76) hx hb dX10_write_36 (by decide) (fun c_111 => ?_) (fun c_111 => ?_)
          · skip
            have c_111 : yk.toInt < 0 := q_lt c_111
            exact (hWW61 _ _ _).mp (kx61 yk c1 t1 H locs ls v61_0 v61_1 v61_2 v61_3 (by omega) hG hS (lv_sub hl [0, 1, 2, 3] rfl))
          · skip
            have c_111 : 0 ≤ yk.toInt := q_nlt c_111
            refine lv_pc (pc2 := 39) rfl ?_
            refine lv_aload_n hx hb dX10_write_39 rfl (lv_at hl 1 rfl) ?_
            obtain ⟨r_112, r_114, r_116, r_118, r_120, r_122, r_124, r_126, r_128, r_130, r_132, r_134, r_136, r_138, r_140, r_142, r_144, r_146, r_148, r_150, r_152, r_154, v_156, r_157, at_159, h_113, h_115, h_117, h_119, h_121, h_123, h_125, h_127, h_129, h_131, h_133, h_135, h_137, h_139, h_141, h_143, h_145, h_147, h_149, h_151, h_153, h_155, h_158⟩ := mF_o40 hG k_a0
            refine va_get (D := D) (ci := 9) (v := .ref r_112) (C := RX10) (T := TX10) (N := 36) hx hb hts in10 hown hK (va_one at_159) 0 rfl rfl 1 (by decide) (hts (.fieldLink RX10 7 "RiverModelModel" "text" "[I") (List.mem_of_getElem? (i := 6) rfl)) (fun _ h9 => h9) rfl dX10_write_40 ?_
            refine lv_aload_n hx hb dX10_write_43 rfl (lv_at hl 1 rfl) ?_
            refine va_get (D := D) (ci := 9) (v := .int c1) (C := RX10) (T := TX10) (N := 36) hx hb hts in10 hown hK (va_one at_159) 0 rfl rfl 0 (by decide) (hts (.fieldLink RX10 89 "RiverModelModel" "length" "I") (List.mem_of_getElem? (i := 5) rfl)) (fun _ h9 => h9) rfl dX10_write_44 ?_
            refine lv_lload_n hx hb dX10_write_47 rfl (lv_at hl 3 rfl) ?_
            refine lv_bipush (v := 8) hx hb dX10_write_48 (by decide) ?_
            refine lv_iload hx hb dX10_write_50 (lv_at hl 0 rfl) ?_
            refine lv_imul hx hb dX10_write_52 ?_
            refine lv_topi (fun x_160 e_161 => ?_)
            have i_x_160 : x_160.toInt = 8 * yk.toInt := by rw [e_161]; exact (q_mul (by rw [show (8 : Int32).toInt = 8 by decide]; omega) (by rw [show (8 : Int32).toInt = 8 by decide]; omega)).trans (by rw [show (8 : Int32).toInt = 8 by decide])
            refine lv_pc (pc2 := 53) rfl ?_
            refine lv_lshr hx hb dX10_write_53 rfl ?_
            refine lv_topl (fun z_162 e_163 => ?_)
            refine lv_ldc2 hx hb hown (hts (.constantLong RX10 93 (255)) (List.mem_of_getElem? (i := 7) rfl)) dX10_write_54 ?_
            refine lv_land hx hb dX10_write_57 ?_
            refine lv_topl (fun z_164 e_165 => ?_)
            refine lv_l2i (v := z_164.toInt32) hx hb dX10_write_58 rfl ?_
            refine lv_topi (fun x_166 e_167 => ?_)
            have at_168 := mF_o41 hG h_113
            have b_169 : vp_in c1 400 := (q_in (by omega) (by omega))
            obtain ⟨q_170, eq_170⟩ : ∃ q : Nat → Int32, q = upd t1 c1.toNatClampNeg x_166 := ⟨_, rfl⟩
            refine ty_iast (F2 := (mF cI cL cC c1 gE gW gA q_170 gI gS gM K F S N gH gJ ge gk gf gs gg gr RN gb rV rN)) hx hb hK hG hS 0 at_168 (by rw [h_113]; rfl) rfl b_169 (by rw [h_113]; show _ = _; rw [eq_170]) (fun hG b hb h0 => by obtain ⟨e, g1, g2⟩ := hG b h0; exact ⟨e, g1, mF_gT (fun h => hb (uq b r_112 (h.trans h_113.symm) h0)) g2⟩) dX10_write_59 (fun H locs hG hS at_171 o_172 => ?_)
            have at_159 := va_at.keptK at_159 o_172 h_113 k_a0 rfl
            refine lv_aload_n hx hb dX10_write_60 rfl (lv_at hl 1 rfl) ?_
            refine lv_dup hx hb dX10_write_61 rfl ?_
            refine va_get (D := D) (ci := 9) (v := .int c1) (C := RX10) (T := TX10) (N := 36) hx hb hts in10 hown hK (va_one at_159) 0 rfl rfl 0 (by decide) (hts (.fieldLink RX10 89 "RiverModelModel" "length" "I") (List.mem_of_getElem? (i := 5) rfl)) (fun _ h9 => h9) rfl dX10_write_62 ?_
            refine lv_pc (pc2 := 65) rfl ?_
            refine lv_iconst (v := 1) hx hb dX10_write_65 (by decide) ?_
            refine lv_iadd hx hb dX10_write_66 ?_
            refine lv_topi (fun x_173 e_174 => ?_)
            have i_x_173 : x_173.toInt = c1.toInt + 1 := by rw [e_174]; exact (q_add (by rw [show (1 : Int32).toInt = 1 by decide]; omega) (by rw [show (1 : Int32).toInt = 1 by decide]; omega)).trans (by rw [show (1 : Int32).toInt = 1 by decide])
            refine ty_put (D := D) (ci := 9) (v := .int x_173) (ty := .int) (C := RX10) (T := TX10) (N := 36) (F2 := (mF cI cL cC x_173 gE gW gA q_170 gI gS gM K F S N gH gJ ge gk gf gs gg gr RN gb rV rN)) hx hb hts in10 tyX10 tyX10_ok nmX10 hown hK hG hS at_159 (by rw [k_a0]; rfl) rfl 0 (by decide) (hts (.fieldLink RX10 89 "RiverModelModel" "length" "I") (List.mem_of_getElem? (i := 5) rfl)) (fun _ h9 => h9) rfl (by decide +kernel) rfl rfl (Nat.le_of_ble_eq_true rfl) (by rw [k_a0]; exact ⟨r_112, r_114, r_116, r_118, r_120, r_122, r_124, r_126, r_128, r_130, r_132, r_134, r_136, r_138, r_140, r_142, r_144, r_146, r_148, r_150, r_152, r_154, v_156, r_157, rfl, h_113, h_115, h_117, h_119, h_121, h_123, h_125, h_127, h_129, h_131, h_133, h_135, h_137, h_139, h_141, h_143, h_145, h_147, h_149, h_151, h_153, h_155, h_158⟩) (fun hG b hb h0 => by obtain ⟨e, g1, g2⟩ := hG b h0; exact ⟨e, g1, mF_gC (fun h => hb (uq b a0 (h.trans k_a0.symm) h0)) g2⟩) dX10_write_67 (fun H locs hG hS at_175 o_176 => ?_)
            have at_175 : va_at D vwCl (a0, .inr (9, [.int x_173, .ref r_112, .int gb, .int gI, .ref r_114, .ref r_116, .ref r_118, .ref r_120, .int gS, .ref r_122, .ref r_124, .ref r_126, .ref r_128, .int gM, .ref r_130, .ref r_132, .ref r_134, .int gE, .ref r_136, .ref r_138, .ref r_140, .ref r_142, .ref r_144, .ref r_146, .ref r_148, .ref r_150, .ref r_152, .int ge, .int gk, .int gf, .int gs, .int gg, .ref r_154, .int gr, .int v_156, .ref r_157])) H := at_175
            obtain ⟨x_177, e_178⟩ : ∃ y : Int32, y = yk + Int32.ofInt (-1) := ⟨_, rfl⟩
            have i_x_177 : x_177.toInt = yk.toInt + (-1) := by rw [e_178, show Int32.ofInt (-1) = (-1) by decide]; exact (q_add (by rw [show ((-1) : Int32).toInt = (-1) by decide]; omega) (by rw [show ((-1) : Int32).toInt = (-1) by decide]; omega)).trans (by rw [show ((-1) : Int32).toInt = (-1) by decide])
            refine lv_iinc (v := x_177) (lv' := [(4, .int x_177), (0, .ref a0), (1, .int a1), (2, .long a2)]) hx hb dX10_write_70 hl (k := 0) rfl e_178.symm (by decide) rfl (fun ls hl => ?_)
            refine lv_goto (tgt := 34) hx hb dX10_write_73 (by decide) ?_
            exact (hWW61 _ _ _).mp (ih61 x_177 x_173 q_170 H locs ls (by omega) (by omega) (by omega) (by omega) (wriB.step v61_3 (by omega) eq_170 (by rw [e_167, e_165, e_163]; exact byV_ref (by omega) (by omega)) (by omega) (by omega) (by omega)) hG hS (lv_sub hl [0, 1, 2, 3] rfl))
      exact lp61 (x_59.toInt + 1 : Int).toNat x_59 gC gT H locs ls (by omega) (by omega) (by omega) (by omega) (by rw [show (x_59.toInt + 1).toNat = a1.toInt.toNat by omega]) hG hS (lv_sub hl [0, 1, 2, 3] rfl)
    · skip
      have c_58 : 400 < x_56.toInt := q_nle c_58
      refine lv_bipush (v := (-3)) hx hb dX10_write_26 (by decide) ?_
      have zi_m3 : ((-3) : Int32).toInt = (-3) := by decide
      exact tx_iret (z := (gC, gT)) hx hb hr hlk hG hS ⟨(by show ((-3) : Int32) = awr gC a1; simp only [awr]; first | (rw [if_pos (by omega)]; done) | (rw [if_neg (by omega)]; done) | (rw [if_neg (by omega), if_pos (by omega)]; done) | (rw [if_neg (by omega), if_neg (by omega)]; done)), (by show gC = nwr gC a1; simp only [nwr]; first | (rw [if_pos (by omega)]; done) | (rw [if_neg (by omega)]; done) | (rw [if_neg (by omega), if_pos (by omega)]; done) | (rw [if_neg (by omega), if_neg (by omega)]; done)), (by show 0 ≤ gC.toInt; omega), (by show gC.toInt ≤ 400; omega), (by show gT = nwT gT gC a1 a2; unfold nwT; first | (rw [if_pos (by omega)]; done) | (rw [if_neg (by omega), if_pos (by omega)]; done))⟩ dX10_write_28
  · skip
    refine lv_if_ne (tgt := 14) hx hb dX10_write_9 (by decide) (fun q => absurd rfl q) (fun _ => ?_)
    refine lv_pc (pc2 := 12) rfl ?_
    refine lv_iconst (v := (-1)) hx hb dX10_write_12 (by decide) ?_
    have zi_m1 : ((-1) : Int32).toInt = (-1) := by decide
    exact tx_iret (z := (gC, gT)) hx hb hr hlk hG hS ⟨(by show ((-1) : Int32) = awr gC a1; simp only [awr]; first | (rw [if_pos (by omega)]; done) | (rw [if_neg (by omega)]; done) | (rw [if_neg (by omega), if_pos (by omega)]; done) | (rw [if_neg (by omega), if_neg (by omega)]; done)), (by show gC = nwr gC a1; simp only [nwr]; first | (rw [if_pos (by omega)]; done) | (rw [if_neg (by omega)]; done) | (rw [if_neg (by omega), if_pos (by omega)]; done) | (rw [if_neg (by omega), if_neg (by omega)]; done)), (by show 0 ≤ gC.toInt; omega), (by show gC.toInt ≤ 400; omega), (by show gT = nwT gT gC a1 a2; unfold nwT; first | (rw [if_pos (by omega)]; done) | (rw [if_neg (by omega), if_pos (by omega)]; done))⟩ dX10_write_13
