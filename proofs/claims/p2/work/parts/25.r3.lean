theorem dX10_lays_0 : decode cX10_lays 0 = .ok (.bipush 40, 2) := by decide +kernel
theorem dX10_lays_2 : decode cX10_lays 2 = .ok (.iload_n 1, 1) := by decide +kernel
theorem dX10_lays_3 : decode cX10_lays 3 = .ok (.imul, 1) := by decide +kernel
theorem dX10_lays_4 : decode cX10_lays 4 = .ok (.iload_n 2, 1) := by decide +kernel
theorem dX10_lays_5 : decode cX10_lays 5 = .ok (.iadd, 1) := by decide +kernel
theorem dX10_lays_6 : decode cX10_lays 6 = .ok (.istore_n 3, 1) := by decide +kernel
theorem dX10_lays_7 : decode cX10_lays 7 = .ok (.aload_n 0, 1) := by decide +kernel
theorem dX10_lays_8 : decode cX10_lays 8 = .ok (.getfield 13, 3) := by decide +kernel
theorem dX10_lays_11 : decode cX10_lays 11 = .ok (.iload_n 3, 1) := by decide +kernel
theorem dX10_lays_12 : decode cX10_lays 12 = .ok (.aload_n 0, 1) := by decide +kernel
theorem dX10_lays_13 : decode cX10_lays 13 = .ok (.getfield 125, 3) := by decide +kernel
theorem dX10_lays_16 : decode cX10_lays 16 = .ok (.iastore, 1) := by decide +kernel
theorem dX10_lays_17 : decode cX10_lays 17 = .ok (.aload_n 0, 1) := by decide +kernel
theorem dX10_lays_18 : decode cX10_lays 18 = .ok (.getfield 16, 3) := by decide +kernel
theorem dX10_lays_21 : decode cX10_lays 21 = .ok (.iload_n 3, 1) := by decide +kernel
theorem dX10_lays_22 : decode cX10_lays 22 = .ok (.aload_n 0, 1) := by decide +kernel
theorem dX10_lays_23 : decode cX10_lays 23 = .ok (.getfield 135, 3) := by decide +kernel
theorem dX10_lays_26 : decode cX10_lays 26 = .ok (.iastore, 1) := by decide +kernel
theorem dX10_lays_27 : decode cX10_lays 27 = .ok (.aload_n 0, 1) := by decide +kernel
theorem dX10_lays_28 : decode cX10_lays 28 = .ok (.getfield 19, 3) := by decide +kernel
theorem dX10_lays_31 : decode cX10_lays 31 = .ok (.iload_n 3, 1) := by decide +kernel
theorem dX10_lays_32 : decode cX10_lays 32 = .ok (.aload_n 0, 1) := by decide +kernel
theorem dX10_lays_33 : decode cX10_lays 33 = .ok (.getfield 138, 3) := by decide +kernel
theorem dX10_lays_36 : decode cX10_lays 36 = .ok (.iastore, 1) := by decide +kernel
theorem dX10_lays_37 : decode cX10_lays 37 = .ok (.iconst 0, 1) := by decide +kernel
theorem dX10_lays_38 : decode cX10_lays 38 = .ok (.istore 4, 2) := by decide +kernel
theorem dX10_lays_40 : decode cX10_lays 40 = .ok (.iload 4, 2) := by decide +kernel
theorem dX10_lays_42 : decode cX10_lays 42 = .ok (.iconst 3, 1) := by decide +kernel
theorem dX10_lays_43 : decode cX10_lays 43 = .ok (.if_icmp .ge 27, 3) := by decide +kernel
theorem dX10_lays_46 : decode cX10_lays 46 = .ok (.aload_n 0, 1) := by decide +kernel
theorem dX10_lays_47 : decode cX10_lays 47 = .ok (.getfield 22, 3) := by decide +kernel
theorem dX10_lays_50 : decode cX10_lays 50 = .ok (.iconst 3, 1) := by decide +kernel
theorem dX10_lays_51 : decode cX10_lays 51 = .ok (.iload_n 3, 1) := by decide +kernel
theorem dX10_lays_52 : decode cX10_lays 52 = .ok (.imul, 1) := by decide +kernel
theorem dX10_lays_53 : decode cX10_lays 53 = .ok (.iload 4, 2) := by decide +kernel
theorem dX10_lays_55 : decode cX10_lays 55 = .ok (.iadd, 1) := by decide +kernel
theorem dX10_lays_56 : decode cX10_lays 56 = .ok (.aload_n 0, 1) := by decide +kernel
theorem dX10_lays_57 : decode cX10_lays 57 = .ok (.getfield 74, 3) := by decide +kernel
theorem dX10_lays_60 : decode cX10_lays 60 = .ok (.iload 4, 2) := by decide +kernel
theorem dX10_lays_62 : decode cX10_lays 62 = .ok (.iaload, 1) := by decide +kernel
theorem dX10_lays_63 : decode cX10_lays 63 = .ok (.iastore, 1) := by decide +kernel
theorem dX10_lays_64 : decode cX10_lays 64 = .ok (.iinc 4 1, 3) := by decide +kernel
theorem dX10_lays_67 : decode cX10_lays 67 = .ok (.goto (-27), 3) := by decide +kernel
theorem dX10_lays_70 : decode cX10_lays 70 = .ok (.return_, 1) := by decide +kernel
def uX10_lays : List Cond := .code yX10_lays cX10_lays 5 none :: ([.fieldLink RX10 13 "RiverModelModel" "kind" "[I", .fieldLink RX10 125 "RiverModelModel" "readKind" "I", .fieldLink RX10 16 "RiverModelModel" "first" "[I", .fieldLink RX10 135 "RiverModelModel" "readFirst" "I", .fieldLink RX10 19 "RiverModelModel" "second" "[I", .fieldLink RX10 138 "RiverModelModel" "readSecond" "I", .fieldLink RX10 22 "RiverModelModel" "number" "[I", .fieldLink RX10 74 "RiverModelModel" "readNumber" "[I"] ++ wsX100)
set_option maxHeartbeats 4000000 in
set_option maxRecDepth 100000 in
theorem m_X10_lays (l : Launch) (D : va_G) (t : Nat → Nat) (cI cL cC : ClassId) (gC : Int32) (gE : Int32) (gW : Nat → Int32) (gA : Nat → Int32) (gT : Nat → Int32) (gI : Int32) (gS : Int32) (gM : Int32) (K : Nat → Int32) (F : Nat → Int32) (S : Nat → Int32) (N : Nat → Int32) (gH : Int) (gJ : Int) (ge : Int32) (gk : Int32) (gf : Int32) (gs : Int32) (gg : Int32) (gr : Int32) (RN : Nat → Int32) (a0 : Nat) (a1 : Int32) (a2 : Int32) (A : Int) (uq : ∀ b c : Nat, t b = t c → t b ≠ 0 → b = c) (hA : 40 * a1.toInt = A) (hM0 : 0 ≤ a1.toInt) (hM2 : a1.toInt ≤ 2) (h0 : 0 ≤ a2.toInt) (h39 : a2.toInt ≤ 39) (k_a0 : t a0 = 40) : tMx (Z := (Nat → Int32) × (Nat → Int32) × (Nat → Int32) × (Nat → Int32)) l yX10_lays uX10_lays 0 0 D (mF cI cL cC gC gE gW gA gT gI gS gM K F S N gH gJ ge gk gf gs gg gr RN) (fun z => (mF cI cL cC gC gE gW gA gT gI gS gM z.1 z.2.1 z.2.2.1 z.2.2.2 gH gJ ge gk gf gs gg gr RN)) t cI cL cC [.ref a0, .int a1, .int a2] wI (xV (fun (z : (Nat → Int32) × (Nat → Int32) × (Nat → Int32) × (Nat → Int32)) => z.1 = upd K (A + a2.toInt).toNat gk ∧ z.2.1 = upd F (A + a2.toInt).toNat gf ∧ z.2.2.1 = upd S (A + a2.toInt).toNat gs ∧ z.2.2.2 = upd (upd (upd N (3 * (A + a2.toInt)).toNat (RN 0)) (3 * (A + a2.toInt) + 1).toNat (RN 1)) (3 * (A + a2.toInt) + 2).toNat (RN 2))) := by
  refine tMx.ofW (cc := cX10_lays) (maxL := 5) (ret := none) (by decide) rfl (Nat.le_of_ble_eq_true rfl) ?_
  intro p e s m below meth c hx hb hr hml hown hts hlk H locs hG hK hE hS ls hl
  have hl : lv_has ls 5 [(0, .ref a0), (1, .int a1), (2, .int a2)] := hl
  have in10 : ∀ w ∈ wsX100, w ∈ uX10_lays := fun w h => List.mem_cons_of_mem _ (List.mem_append_right _ h)
  refine lv_bipush (v := 40) hx hb dX10_lays_0 (by decide) ?_
  refine lv_iload_n hx hb dX10_lays_2 rfl (lv_at hl 1 rfl) ?_
  refine lv_imul hx hb dX10_lays_3 ?_
  refine lv_topi (fun x_1 e_2 => ?_)
  have i_x_1 : x_1.toInt = 40 * a1.toInt := by rw [e_2]; exact (q_mul (by rw [show (40 : Int32).toInt = 40 by decide]; omega) (by rw [show (40 : Int32).toInt = 40 by decide]; omega)).trans (by rw [show (40 : Int32).toInt = 40 by decide])
  refine lv_iload_n hx hb dX10_lays_4 rfl (lv_at hl 2 rfl) ?_
  refine lv_iadd hx hb dX10_lays_5 ?_
  refine lv_topi (fun x_3 e_4 => ?_)
  have i_x_3 : x_3.toInt = x_1.toInt + a2.toInt := by rw [e_4]; exact (q_add (by omega) (by omega)).trans (by rfl)
  refine lv_istore_n (lv' := [(3, .int x_3), (0, .ref a0), (1, .int a1), (2, .int a2)]) hx hb dX10_lays_6 rfl hl (by decide) rfl (fun ls hl => ?_)
  refine lv_aload_n hx hb dX10_lays_7 rfl (lv_at hl 1 rfl) ?_
  refine lv_pc (pc2 := 8) rfl ?_
  obtain ⟨r_5, v_7, r_8, r_10, r_12, r_14, r_16, r_18, r_20, r_22, r_24, r_26, r_28, r_30, r_32, r_34, r_36, r_38, r_40, r_42, r_44, r_46, r_48, v_50, r_51, at_53, h_6, h_9, h_11, h_13, h_15, h_17, h_19, h_21, h_23, h_25, h_27, h_29, h_31, h_33, h_35, h_37, h_39, h_41, h_43, h_45, h_47, h_49, h_52⟩ := mF_o40 hG k_a0
  refine va_get (D := D) (ci := 9) (v := .ref r_8) (C := RX10) (T := TX10) (N := 36) hx hb hts in10 hown hK (va_one at_53) 0 rfl rfl 4 (by decide) (hts (.fieldLink RX10 13 "RiverModelModel" "kind" "[I") (List.mem_of_getElem? (i := 1) rfl)) (fun _ h9 => h9) rfl dX10_lays_8 ?_
  refine lv_iload_n hx hb dX10_lays_11 rfl (lv_at hl 0 rfl) ?_
  refine lv_aload_n hx hb dX10_lays_12 rfl (lv_at hl 1 rfl) ?_
  refine va_get (D := D) (ci := 9) (v := .int gk) (C := RX10) (T := TX10) (N := 36) hx hb hts in10 hown hK (va_one at_53) 0 rfl rfl 28 (by decide) (hts (.fieldLink RX10 125 "RiverModelModel" "readKind" "I") (List.mem_of_getElem? (i := 2) rfl)) (fun _ h9 => h9) rfl dX10_lays_13 ?_
  have at_54 := mF_o42 hG h_9
  have b_55 : vp_in x_3 120 := (q_in (by omega) (by omega))
  obtain ⟨q_56, eq_56⟩ : ∃ q : Nat → Int32, q = upd K x_3.toNatClampNeg gk := ⟨_, rfl⟩
  refine ty_iast (F2 := (mF cI cL cC gC gE gW gA gT gI gS gM q_56 F S N gH gJ ge gk gf gs gg gr RN)) hx hb hK hG hS 0 at_54 (by rw [h_9]; rfl) rfl b_55 (by rw [h_9]; show _ = _; rw [eq_56]) (fun hG b hb h0 => by obtain ⟨e, g1, g2⟩ := hG b h0; exact ⟨e, g1, mF_K (fun h => hb (uq b r_8 (h.trans h_9.symm) h0)) g2⟩) dX10_lays_16 (fun H locs hG hS at_57 o_58 => ?_)
  have at_53 := va_at.keptK at_53 o_58 h_9 k_a0 rfl
  refine lv_aload_n hx hb dX10_lays_17 rfl (lv_at hl 1 rfl) ?_
  refine va_get (D := D) (ci := 9) (v := .ref r_10) (C := RX10) (T := TX10) (N := 36) hx hb hts in10 hown hK (va_one at_53) 0 rfl rfl 5 (by decide) (hts (.fieldLink RX10 16 "RiverModelModel" "first" "[I") (List.mem_of_getElem? (i := 3) rfl)) (fun _ h9 => h9) rfl dX10_lays_18 ?_
  refine lv_iload_n hx hb dX10_lays_21 rfl (lv_at hl 0 rfl) ?_
  refine lv_pc (pc2 := 22) rfl ?_
  refine lv_aload_n hx hb dX10_lays_22 rfl (lv_at hl 1 rfl) ?_
  refine va_get (D := D) (ci := 9) (v := .int gf) (C := RX10) (T := TX10) (N := 36) hx hb hts in10 hown hK (va_one at_53) 0 rfl rfl 29 (by decide) (hts (.fieldLink RX10 135 "RiverModelModel" "readFirst" "I") (List.mem_of_getElem? (i := 4) rfl)) (fun _ h9 => h9) rfl dX10_lays_23 ?_
  have at_59 := mF_o43 hG h_11
  have b_60 : vp_in x_3 120 := (q_in (by omega) (by omega))
  obtain ⟨q_61, eq_61⟩ : ∃ q : Nat → Int32, q = upd F x_3.toNatClampNeg gf := ⟨_, rfl⟩
  refine ty_iast (F2 := (mF cI cL cC gC gE gW gA gT gI gS gM q_56 q_61 S N gH gJ ge gk gf gs gg gr RN)) hx hb hK hG hS 0 at_59 (by rw [h_11]; rfl) rfl b_60 (by rw [h_11]; show _ = _; rw [eq_61]) (fun hG b hb h0 => by obtain ⟨e, g1, g2⟩ := hG b h0; exact ⟨e, g1, mF_F (fun h => hb (uq b r_10 (h.trans h_11.symm) h0)) g2⟩) dX10_lays_26 (fun H locs hG hS at_62 o_63 => ?_)
  have at_53 := va_at.keptK at_53 o_63 h_11 k_a0 rfl
  refine lv_aload_n hx hb dX10_lays_27 rfl (lv_at hl 1 rfl) ?_
  refine va_get (D := D) (ci := 9) (v := .ref r_12) (C := RX10) (T := TX10) (N := 36) hx hb hts in10 hown hK (va_one at_53) 0 rfl rfl 6 (by decide) (hts (.fieldLink RX10 19 "RiverModelModel" "second" "[I") (List.mem_of_getElem? (i := 5) rfl)) (fun _ h9 => h9) rfl dX10_lays_28 ?_
  refine lv_iload_n hx hb dX10_lays_31 rfl (lv_at hl 0 rfl) ?_
  refine lv_aload_n hx hb dX10_lays_32 rfl (lv_at hl 1 rfl) ?_
  refine va_get (D := D) (ci := 9) (v := .int gs) (C := RX10) (T := TX10) (N := 36) hx hb hts in10 hown hK (va_one at_53) 0 rfl rfl 30 (by decide) (hts (.fieldLink RX10 138 "RiverModelModel" "readSecond" "I") (List.mem_of_getElem? (i := 6) rfl)) (fun _ h9 => h9) rfl dX10_lays_33 ?_
  refine lv_pc (pc2 := 36) rfl ?_
  have at_64 := mF_o44 hG h_13
  have b_65 : vp_in x_3 120 := (q_in (by omega) (by omega))
  obtain ⟨q_66, eq_66⟩ : ∃ q : Nat → Int32, q = upd S x_3.toNatClampNeg gs := ⟨_, rfl⟩
  refine ty_iast (F2 := (mF cI cL cC gC gE gW gA gT gI gS gM q_56 q_61 q_66 N gH gJ ge gk gf gs gg gr RN)) hx hb hK hG hS 0 at_64 (by rw [h_13]; rfl) rfl b_65 (by rw [h_13]; show _ = _; rw [eq_66]) (fun hG b hb h0 => by obtain ⟨e, g1, g2⟩ := hG b h0; exact ⟨e, g1, mF_S (fun h => hb (uq b r_12 (h.trans h_13.symm) h0)) g2⟩) dX10_lays_36 (fun H locs hG hS at_67 o_68 => ?_)
  have at_53 := va_at.keptK at_53 o_68 h_13 k_a0 rfl
  refine lv_iconst (v := 0) hx hb dX10_lays_37 (by decide) ?_
  refine lv_istore (lv' := [(4, .int 0), (3, .int x_3), (0, .ref a0), (1, .int a1), (2, .int a2)]) hx hb dX10_lays_38 hl (by decide) rfl (fun ls hl => ?_)
  refine lv_iload hx hb dX10_lays_40 (lv_at hl 0 rfl) ?_
  refine lv_iconst (v := 3) hx hb dX10_lays_42 (by decide) ?_
  refine lv_icmp_ge (tgt := 70) hx hb dX10_lays_43 (by decide) (fun q => absurd q (by decide)) (fun _ => ?_)
  refine lv_aload_n hx hb dX10_lays_46 rfl (lv_at hl 2 rfl) ?_
  refine va_get (D := D) (ci := 9) (v := .ref r_14) (C := RX10) (T := TX10) (N := 36) hx hb hts in10 hown hK (va_one at_53) 0 rfl rfl 7 (by decide) (hts (.fieldLink RX10 22 "RiverModelModel" "number" "[I") (List.mem_of_getElem? (i := 7) rfl)) (fun _ h9 => h9) rfl dX10_lays_47 ?_
  refine lv_pc (pc2 := 50) rfl ?_
  refine lv_iconst (v := 3) hx hb dX10_lays_50 (by decide) ?_
  refine lv_iload_n hx hb dX10_lays_51 rfl (lv_at hl 1 rfl) ?_
  refine lv_imul hx hb dX10_lays_52 ?_
  refine lv_topi (fun x_69 e_70 => ?_)
  have i_x_69 : x_69.toInt = 3 * x_3.toInt := by rw [e_70]; exact (q_mul (by rw [show (3 : Int32).toInt = 3 by decide]; omega) (by rw [show (3 : Int32).toInt = 3 by decide]; omega)).trans (by rw [show (3 : Int32).toInt = 3 by decide])
  refine lv_iload hx hb dX10_lays_53 (lv_at hl 0 rfl) ?_
  refine lv_iadd hx hb dX10_lays_55 ?_
  refine lv_topi (fun x_71 e_72 => ?_)
  have i_x_71 : x_71.toInt = x_69.toInt + 0 := by rw [e_72]; exact (q_add (by rw [show (0 : Int32).toInt = 0 by decide]; omega) (by rw [show (0 : Int32).toInt = 0 by decide]; omega)).trans (by rw [show (0 : Int32).toInt = 0 by decide])
  refine lv_aload_n hx hb dX10_lays_56 rfl (lv_at hl 2 rfl) ?_
  refine va_get (D := D) (ci := 9) (v := .ref r_48) (C := RX10) (T := TX10) (N := 36) hx hb hts in10 hown hK (va_one at_53) 0 rfl rfl 32 (by decide) (hts (.fieldLink RX10 74 "RiverModelModel" "readNumber" "[I") (List.mem_of_getElem? (i := 8) rfl)) (fun _ h9 => h9) rfl dX10_lays_57 ?_
  refine lv_iload hx hb dX10_lays_60 (lv_at hl 0 rfl) ?_
  refine lv_pc (pc2 := 62) rfl ?_
  have at_73 := mF_o62 hG h_49
  have b_74 : vp_in 0 3 := (q_in (by decide) (by decide))
  refine va_iald hx hb hK (va_one at_73) 0 0 rfl rfl b_74 dX10_lays_62 ?_
  refine lv_topi (fun x_75 e_76 => ?_)
  have w_x_75 : x_75 = RN 0 := by rw [e_76]; rfl
  have i_x_75 : x_75.toInt = (RN 0).toInt := by rw [w_x_75]
  have at_77 := mF_o45 hG h_15
  have b_78 : vp_in x_71 360 := (q_in (by omega) (by omega))
  obtain ⟨q_79, eq_79⟩ : ∃ q : Nat → Int32, q = upd N x_71.toNatClampNeg x_75 := ⟨_, rfl⟩
  refine ty_iast (F2 := (mF cI cL cC gC gE gW gA gT gI gS gM q_56 q_61 q_66 q_79 gH gJ ge gk gf gs gg gr RN)) hx hb hK hG hS 0 at_77 (by rw [h_15]; rfl) rfl b_78 (by rw [h_15]; show _ = _; rw [eq_79]) (fun hG b hb h0 => by obtain ⟨e, g1, g2⟩ := hG b h0; exact ⟨e, g1, mF_N (fun h => hb (uq b r_14 (h.trans h_15.symm) h0)) g2⟩) dX10_lays_63 (fun H locs hG hS at_80 o_81 => ?_)
  have at_53 := va_at.keptK at_53 o_81 h_15 k_a0 rfl
  have at_73 := va_at.keptK at_73 o_81 h_15 h_49 rfl
  refine lv_iinc (v := 1) (lv' := [(4, .int 1), (3, .int x_3), (0, .ref a0), (1, .int a1), (2, .int a2)]) hx hb dX10_lays_64 hl (k := 0) rfl (by decide) (by decide) rfl (fun ls hl => ?_)
  refine lv_goto (tgt := 40) hx hb dX10_lays_67 (by decide) ?_
  refine lv_iload hx hb dX10_lays_40 (lv_at hl 0 rfl) ?_
  refine lv_iconst (v := 3) hx hb dX10_lays_42 (by decide) ?_
  refine lv_icmp_ge (tgt := 70) hx hb dX10_lays_43 (by decide) (fun q => absurd q (by decide)) (fun _ => ?_)
  refine lv_aload_n hx hb dX10_lays_46 rfl (lv_at hl 2 rfl) ?_
  refine lv_pc (pc2 := 47) rfl ?_
  refine va_get (D := D) (ci := 9) (v := .ref r_14) (C := RX10) (T := TX10) (N := 36) hx hb hts in10 hown hK (va_one at_53) 0 rfl rfl 7 (by decide) (hts (.fieldLink RX10 22 "RiverModelModel" "number" "[I") (List.mem_of_getElem? (i := 7) rfl)) (fun _ h9 => h9) rfl dX10_lays_47 ?_
  refine lv_iconst (v := 3) hx hb dX10_lays_50 (by decide) ?_
  refine lv_iload_n hx hb dX10_lays_51 rfl (lv_at hl 1 rfl) ?_
  refine lv_imul hx hb dX10_lays_52 ?_
  refine lv_topi (fun x_82 e_83 => ?_)
  have i_x_82 : x_82.toInt = 3 * x_3.toInt := by rw [e_83]; exact (q_mul (by rw [show (3 : Int32).toInt = 3 by decide]; omega) (by rw [show (3 : Int32).toInt = 3 by decide]; omega)).trans (by rw [show (3 : Int32).toInt = 3 by decide])
  refine lv_iload hx hb dX10_lays_53 (lv_at hl 0 rfl) ?_
  refine lv_iadd hx hb dX10_lays_55 ?_
  refine lv_topi (fun x_84 e_85 => ?_)
  have i_x_84 : x_84.toInt = x_82.toInt + 1 := by rw [e_85]; exact (q_add (by rw [show (1 : Int32).toInt = 1 by decide]; omega) (by rw [show (1 : Int32).toInt = 1 by decide]; omega)).trans (by rw [show (1 : Int32).toInt = 1 by decide])
  refine lv_aload_n hx hb dX10_lays_56 rfl (lv_at hl 2 rfl) ?_
  refine va_get (D := D) (ci := 9) (v := .ref r_48) (C := RX10) (T := TX10) (N := 36) hx hb hts in10 hown hK (va_one at_53) 0 rfl rfl 32 (by decide) (hts (.fieldLink RX10 74 "RiverModelModel" "readNumber" "[I") (List.mem_of_getElem? (i := 8) rfl)) (fun _ h9 => h9) rfl dX10_lays_57 ?_
  refine lv_pc (pc2 := 60) rfl ?_
  refine lv_iload hx hb dX10_lays_60 (lv_at hl 0 rfl) ?_
  have b_86 : vp_in 1 3 := (q_in (by decide) (by decide))
  refine va_iald hx hb hK (va_one at_73) 0 0 rfl rfl b_86 dX10_lays_62 ?_
  refine lv_topi (fun x_87 e_88 => ?_)
  have w_x_87 : x_87 = RN 1 := by rw [e_88]; rfl
  have i_x_87 : x_87.toInt = (RN 1).toInt := by rw [w_x_87]
  have at_89 := mF_o45 hG h_15
  have b_90 : vp_in x_84 360 := (q_in (by omega) (by omega))
  obtain ⟨q_91, eq_91⟩ : ∃ q : Nat → Int32, q = upd q_79 x_84.toNatClampNeg x_87 := ⟨_, rfl⟩
  refine ty_iast (F2 := (mF cI cL cC gC gE gW gA gT gI gS gM q_56 q_61 q_66 q_91 gH gJ ge gk gf gs gg gr RN)) hx hb hK hG hS 0 at_89 (by rw [h_15]; rfl) rfl b_90 (by rw [h_15]; show _ = _; rw [eq_91]) (fun hG b hb h0 => by obtain ⟨e, g1, g2⟩ := hG b h0; exact ⟨e, g1, mF_N (fun h => hb (uq b r_14 (h.trans h_15.symm) h0)) g2⟩) dX10_lays_63 (fun H locs hG hS at_92 o_93 => ?_)
  have at_53 := va_at.keptK at_53 o_93 h_15 k_a0 rfl
  have at_73 := va_at.keptK at_73 o_93 h_15 h_49 rfl
  refine lv_iinc (v := 2) (lv' := [(4, .int 2), (3, .int x_3), (0, .ref a0), (1, .int a1), (2, .int a2)]) hx hb dX10_lays_64 hl (k := 0) rfl (by decide) (by decide) rfl (fun ls hl => ?_)
  refine lv_goto (tgt := 40) hx hb dX10_lays_67 (by decide) ?_
  refine lv_iload hx hb dX10_lays_40 (lv_at hl 0 rfl) ?_
  refine lv_iconst (v := 3) hx hb dX10_lays_42 (by decide) ?_
  refine lv_icmp_ge (tgt := 70) hx hb dX10_lays_43 (by decide) (fun q => absurd q (by decide)) (fun _ => ?_)
  refine lv_pc (pc2 := 46) rfl ?_
  refine lv_aload_n hx hb dX10_lays_46 rfl (lv_at hl 2 rfl) ?_
  refine va_get (D := D) (ci := 9) (v := .ref r_14) (C := RX10) (T := TX10) (N := 36) hx hb hts in10 hown hK (va_one at_53) 0 rfl rfl 7 (by decide) (hts (.fieldLink RX10 22 "RiverModelModel" "number" "[I") (List.mem_of_getElem? (i := 7) rfl)) (fun _ h9 => h9) rfl dX10_lays_47 ?_
  refine lv_iconst (v := 3) hx hb dX10_lays_50 (by decide) ?_
  refine lv_iload_n hx hb dX10_lays_51 rfl (lv_at hl 1 rfl) ?_
  refine lv_imul hx hb dX10_lays_52 ?_
  refine lv_topi (fun x_94 e_95 => ?_)
  have i_x_94 : x_94.toInt = 3 * x_3.toInt := by rw [e_95]; exact (q_mul (by rw [show (3 : Int32).toInt = 3 by decide]; omega) (by rw [show (3 : Int32).toInt = 3 by decide]; omega)).trans (by rw [show (3 : Int32).toInt = 3 by decide])
  refine lv_iload hx hb dX10_lays_53 (lv_at hl 0 rfl) ?_
  refine lv_iadd hx hb dX10_lays_55 ?_
  refine lv_topi (fun x_96 e_97 => ?_)
  have i_x_96 : x_96.toInt = x_94.toInt + 2 := by rw [e_97]; exact (q_add (by rw [show (2 : Int32).toInt = 2 by decide]; omega) (by rw [show (2 : Int32).toInt = 2 by decide]; omega)).trans (by rw [show (2 : Int32).toInt = 2 by decide])
  refine lv_aload_n hx hb dX10_lays_56 rfl (lv_at hl 2 rfl) ?_
  refine lv_pc (pc2 := 57) rfl ?_
  refine va_get (D := D) (ci := 9) (v := .ref r_48) (C := RX10) (T := TX10) (N := 36) hx hb hts in10 hown hK (va_one at_53) 0 rfl rfl 32 (by decide) (hts (.fieldLink RX10 74 "RiverModelModel" "readNumber" "[I") (List.mem_of_getElem? (i := 8) rfl)) (fun _ h9 => h9) rfl dX10_lays_57 ?_
  refine lv_iload hx hb dX10_lays_60 (lv_at hl 0 rfl) ?_
  have b_98 : vp_in 2 3 := (q_in (by decide) (by decide))
  refine va_iald hx hb hK (va_one at_73) 0 0 rfl rfl b_98 dX10_lays_62 ?_
  refine lv_topi (fun x_99 e_100 => ?_)
  have w_x_99 : x_99 = RN 2 := by rw [e_100]; rfl
  have i_x_99 : x_99.toInt = (RN 2).toInt := by rw [w_x_99]
  have at_101 := mF_o45 hG h_15
  have b_102 : vp_in x_96 360 := (q_in (by omega) (by omega))
  obtain ⟨q_103, eq_103⟩ : ∃ q : Nat → Int32, q = upd q_91 x_96.toNatClampNeg x_99 := ⟨_, rfl⟩
  refine ty_iast (F2 := (mF cI cL cC gC gE gW gA gT gI gS gM q_56 q_61 q_66 q_103 gH gJ ge gk gf gs gg gr RN)) hx hb hK hG hS 0 at_101 (by rw [h_15]; rfl) rfl b_102 (by rw [h_15]; show _ = _; rw [eq_103]) (fun hG b hb h0 => by obtain ⟨e, g1, g2⟩ := hG b h0; exact ⟨e, g1, mF_N (fun h => hb (uq b r_14 (h.trans h_15.symm) h0)) g2⟩) dX10_lays_63 (fun H locs hG hS at_104 o_105 => ?_)
  have at_53 := va_at.keptK at_53 o_105 h_15 k_a0 rfl
  have at_73 := va_at.keptK at_73 o_105 h_15 h_49 rfl
  refine lv_iinc (v := 3) (lv' := [(4, .int 3), (3, .int x_3), (0, .ref a0), (1, .int a1), (2, .int a2)]) hx hb dX10_lays_64 hl (k := 0) rfl (by decide) (by decide) rfl (fun ls hl => ?_)
  refine lv_goto (tgt := 40) hx hb dX10_lays_67 (by decide) ?_
  refine lv_iload hx hb dX10_lays_40 (lv_at hl 0 rfl) ?_
  refine lv_iconst (v := 3) hx hb dX10_lays_42 (by decide) ?_
  refine lv_pc (pc2 := 43) rfl ?_
  refine lv_icmp_ge (tgt := 70) hx hb dX10_lays_43 (by decide) (fun _ => ?_) (fun q => absurd (by decide) q)
  exact tx_vret (z := (q_56, q_61, q_66, q_103)) hx hb hr hlk hG hS ⟨(by show q_56 = upd K (A + a2.toInt).toNat gk; rw [eq_56, q_clE (x := x_3) (n := A + a2.toInt) (by omega)]), (by show q_61 = upd F (A + a2.toInt).toNat gf; rw [eq_61, q_clE (x := x_3) (n := A + a2.toInt) (by omega)]), (by show q_66 = upd S (A + a2.toInt).toNat gs; rw [eq_66, q_clE (x := x_3) (n := A + a2.toInt) (by omega)]), (by show q_103 = upd (upd (upd N (3 * (A + a2.toInt)).toNat (RN 0)) (3 * (A + a2.toInt) + 1).toNat (RN 1)) (3 * (A + a2.toInt) + 2).toNat (RN 2); rw [eq_103, eq_91, eq_79, w_x_99, w_x_87, w_x_75, q_clE (x := x_96) (n := 3 * (A + a2.toInt) + 2) (by omega), q_clE (x := x_84) (n := 3 * (A + a2.toInt) + 1) (by omega), q_clE (x := x_71) (n := 3 * (A + a2.toInt)) (by omega)])⟩ dX10_lays_70
