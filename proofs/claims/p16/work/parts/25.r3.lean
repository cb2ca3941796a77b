theorem dX10_lays_0 : decode cX10_lays 0 = .ok (.bipush 40, 2) := by decide +kernel
theorem dX10_lays_2 : decode cX10_lays 2 = .ok (.iload_n 1, 1) := by decide +kernel
theorem dX10_lays_3 : decode cX10_lays 3 = .ok (.imul, 1) := by decide +kernel
theorem dX10_lays_4 : decode cX10_lays 4 = .ok (.iload_n 2, 1) := by decide +kernel
theorem dX10_lays_5 : decode cX10_lays 5 = .ok (.iadd, 1) := by decide +kernel
theorem dX10_lays_6 : decode cX10_lays 6 = .ok (.istore_n 3, 1) := by decide +kernel
theorem dX10_lays_7 : decode cX10_lays 7 = .ok (.aload_n 0, 1) := by decide +kernel
theorem dX10_lays_8 : decode cX10_lays 8 = .ok (.getfield 13, 3) := by decide +kernel
theorem dX10_lays_11 : decode cX10_lays 11 = .ok (.iload_n 3, 1) := by decide +kernel
theorem dX10_lays_12 : decode cX10_lays 12 = .ok (.aload_n 0, 1) := by decide +kernel
theorem dX10_lays_13 : decode cX10_lays 13 = .ok (.getfield 125, 3) := by decide +kernel
theorem dX10_lays_16 : decode cX10_lays 16 = .ok (.iastore, 1) := by decide +kernel
theorem dX10_lays_17 : decode cX10_lays 17 = .ok (.aload_n 0, 1) := by decide +kernel
theorem dX10_lays_18 : decode cX10_lays 18 = .ok (.getfield 16, 3) := by decide +kernel
theorem dX10_lays_21 : decode cX10_lays 21 = .ok (.iload_n 3, 1) := by decide +kernel
theorem dX10_lays_22 : decode cX10_lays 22 = .ok (.aload_n 0, 1) := by decide +kernel
theorem dX10_lays_23 : decode cX10_lays 23 = .ok (.getfield 135, 3) := by decide +kernel
theorem dX10_lays_26 : decode cX10_lays 26 = .ok (.iastore, 1) := by decide +kernel
theorem dX10_lays_27 : decode cX10_lays 27 = .ok (.aload_n 0, 1) := by decide +kernel
theorem dX10_lays_28 : decode cX10_lays 28 = .ok (.getfield 19, 3) := by decide +kernel
theorem dX10_lays_31 : decode cX10_lays 31 = .ok (.iload_n 3, 1) := by decide +kernel
theorem dX10_lays_32 : decode cX10_lays 32 = .ok (.aload_n 0, 1) := by decide +kernel
theorem dX10_lays_33 : decode cX10_lays 33 = .ok (.getfield 138, 3) := by decide +kernel
theorem dX10_lays_36 : decode cX10_lays 36 = .ok (.iastore, 1) := by decide +kernel
theorem dX10_lays_37 : decode cX10_lays 37 = .ok (.iconst 0, 1) := by decide +kernel
theorem dX10_lays_38 : decode cX10_lays 38 = .ok (.istore 4, 2) := by decide +kernel
theorem dX10_lays_40 : decode cX10_lays 40 = .ok (.iload 4, 2) := by decide +kernel
theorem dX10_lays_42 : decode cX10_lays 42 = .ok (.iconst 3, 1) := by decide +kernel
theorem dX10_lays_43 : decode cX10_lays 43 = .ok (.if_icmp .ge 27, 3) := by decide +kernel
theorem dX10_lays_46 : decode cX10_lays 46 = .ok (.aload_n 0, 1) := by decide +kernel
theorem dX10_lays_47 : decode cX10_lays 47 = .ok (.getfield 22, 3) := by decide +kernel
theorem dX10_lays_50 : decode cX10_lays 50 = .ok (.iconst 3, 1) := by decide +kernel
theorem dX10_lays_51 : decode cX10_lays 51 = .ok (.iload_n 3, 1) := by decide +kernel
theorem dX10_lays_52 : decode cX10_lays 52 = .ok (.imul, 1) := by decide +kernel
theorem dX10_lays_53 : decode cX10_lays 53 = .ok (.iload 4, 2) := by decide +kernel
theorem dX10_lays_55 : decode cX10_lays 55 = .ok (.iadd, 1) := by decide +kernel
theorem dX10_lays_56 : decode cX10_lays 56 = .ok (.aload_n 0, 1) := by decide +kernel
theorem dX10_lays_57 : decode cX10_lays 57 = .ok (.getfield 74, 3) := by decide +kernel
theorem dX10_lays_60 : decode cX10_lays 60 = .ok (.iload 4, 2) := by decide +kernel
theorem dX10_lays_62 : decode cX10_lays 62 = .ok (.iaload, 1) := by decide +kernel
theorem dX10_lays_63 : decode cX10_lays 63 = .ok (.iastore, 1) := by decide +kernel
theorem dX10_lays_64 : decode cX10_lays 64 = .ok (.iinc 4 1, 3) := by decide +kernel
theorem dX10_lays_67 : decode cX10_lays 67 = .ok (.goto (-27), 3) := by decide +kernel
theorem dX10_lays_70 : decode cX10_lays 70 = .ok (.return_, 1) := by decide +kernel
def uX10_lays : List Cond := .code yX10_lays cX10_lays 5 none :: ([.fieldLink RX10 13 "RiverModelModel" "kind" "[I", .fieldLink RX10 125 "RiverModelModel" "readKind" "I", .fieldLink RX10 16 "RiverModelModel" "first" "[I", .fieldLink RX10 135 "RiverModelModel" "readFirst" "I", .fieldLink RX10 19 "RiverModelModel" "second" "[I", .fieldLink RX10 138 "RiverModelModel" "readSecond" "I", .fieldLink RX10 22 "RiverModelModel" "number" "[I", .fieldLink RX10 74 "RiverModelModel" "readNumber" "[I"] ++ wsX100)
set_option maxHeartbeats 4000000 in
set_option maxRecDepth 100000 in
theorem m_X10_lays (l : Launch) (D : va_G) (t : Nat → Nat) (cI cL cC : ClassId) (gC : Int32) (gE : Int32) (gW : Nat → Int32) (gA : Nat → Int32) (gT : Nat → Int32) (gI : Int32) (gS : Int32) (gM : Int32) (K : Nat → Int32) (F : Nat → Int32) (S : Nat → Int32) (N : Nat → Int32) (gH : Int) (gJ : Int) (ge : Int32) (gk : Int32) (gf : Int32) (gs : Int32) (gg : Int32) (gr : Int32) (RN : Nat → Int32) (gb : Int32) (rV : Nat → Int32) (rN : Nat → Int32) (a0 : Nat) (a1 : Int32) (a2 : Int32) (A : Int) (uq : ∀ b c : Nat, t b = t c → t b ≠ 0 → b = c) (hA : 40 * a1.toInt = A) (hM0 : 0 ≤ a1.toInt) (hM2 : a1.toInt ≤ 2) (h0 : 0 ≤ a2.toInt) (h39 : a2.toInt ≤ 39) (k_a0 : t a0 = 40) : tMx (Z := (Nat → Int32) × (Nat → Int32) × (Nat → Int32) × (Nat → Int32)) l yX10_lays uX10_lays 0 0 D (mF cI cL cC gC gE gW gA gT gI gS gM K F S N gH gJ ge gk gf gs gg gr RN gb rV rN) (fun z => (mF cI cL cC gC gE gW gA gT gI gS gM z.1 z.2.1 z.2.2.1 z.2.2.2 gH gJ ge gk gf gs gg gr RN gb rV rN)) t cI cL cC [.ref a0, .int a1, .int a2] wI (xV (fun (z : (Nat → Int32) × (Nat → Int32) × (Nat → Int32) × (Nat → Int32)) => z.1 = upd K (A + a2.toInt).toNat gk ∧ z.2.1 = upd F (A + a2.toInt).toNat gf ∧ z.2.2.1 = upd S (A + a2.toInt).toNat gs ∧ z.2.2.2 = upd (upd (upd N (3 * (A + a2.toInt)).toNat (RN 0)) (3 * (A + a2.toInt) + 1).toNat (RN 1)) (3 * (A + a2.toInt) + 2).toNat (RN 2))) := by
  refine tMx.ofW (cc := cX10_lays) (maxL := 5) (ret := none) (by decide) rfl (Nat.le_of_ble_eq_true rfl) ?_
  intro p e s m below meth c hx hb hr hml hown hts hlk H locs hG hK hE hS ls hl
  have hl : lv_has ls 5 [(0, .ref a0), (1, .int a1), (2, .int a2)] := hl
  have in10 : ∀ w ∈ wsX100, w ∈ uX10_lays := fun w h => List.mem_cons_of_mem _ (List.mem_append_right _ h)
  refine lv_bipush (v := 40) hx hb dX10_lays_0 (by decide) ?_
  refine lv_iload_n hx hb dX10_lays_2 rfl (lv_at hl 1 rfl) ?_
  refine lv_imul hx hb dX10_lays_3 ?_
  refine lv_topi (fun x_1 e_2 => ?_)
  have i_x_1 : x_1.toInt = 40 * a1.toInt := by rw [e_2]; exact (q_mul (by rw [show (40 : Int32).toInt = 40 by decide]; omega) (by rw [show (40 : Int32).toInt = 40 by decide]; omega)).trans (by rw [show (40 : Int32).toInt = 40 by decide])
  refine lv_iload_n hx hb dX10_lays_4 rfl (lv_at hl 2 rfl) ?_
  refine lv_iadd hx hb dX10_lays_5 ?_
  refine lv_topi (fun x_3 e_4 => ?_)
  have i_x_3 : x_3.toInt = x_1.toInt + a2.toInt := by rw [e_4]; exact (q_add (by omega) (by omega)).trans (by rfl)
  refine lv_istore_n (lv' := [(3, .int x_3), (0, .ref a0), (1, .int a1), (2, .int a2)]) hx hb dX10_lays_6 rfl hl (by decide) rfl (fun ls hl => ?_)
  refine lv_aload_n hx hb dX10_lays_7 rfl (lv_at hl 1 rfl) ?_
  refine lv_pc (pc2 := 8) rfl ?_
  obtain ⟨r_5, r_7, r_9, r_11, r_13, r_15, r_17, r_19, r_21, r_23, r_25, r_27, r_29, r_31, r_33, r_35, r_37, r_39, r_41, r_43, r_45, r_47, v_49, r_50, at_52, h_6, h_8, h_10, h_12, h_14, h_16, h_18, h_20, h_22, h_24, h_26, h_28, h_30, h_32, h_34, h_36, h_38, h_40, h_42, h_44, h_46, h_48, h_51⟩ := mF_o40 hG k_a0
  refine va_get (D := D) (ci := 9) (v := .ref r_7) (C := RX10) (T := TX10) (N := 36) hx hb hts in10 hown hK (va_one at_52) 0 rfl rfl 4 (by decide) (hts (.fieldLink RX10 13 "RiverModelModel" "kind" "[I") (List.mem_of_getElem? (i := 1) rfl)) (fun _ h9 => h9) rfl dX10_lays_8 ?_
  refine lv_iload_n hx hb dX10_lays_11 rfl (lv_at hl 0 rfl) ?_
  refine lv_aload_n hx hb dX10_lays_12 rfl (lv_at hl 1 rfl) ?_
  refine va_get (D := D) (ci := 9) (v := .int gk) (C := RX10) (T := TX10) (N := 36) hx hb hts in10 hown hK (va_one at_52) 0 rfl rfl 28 (by decide) (hts (.fieldLink RX10 125 "RiverModelModel" "readKind" "I") (List.mem_of_getElem? (i := 2) rfl)) (fun _ h9 => h9) rfl dX10_lays_13 ?_
  have at_53 := mF_o42 hG h_8
  have b_54 : vp_in x_3 120 := (q_in (by omega) (by omega))
  obtain ⟨q_55, eq_55⟩ : ∃ q : Nat → Int32, q = upd K x_3.toNatClampNeg gk := ⟨_, rfl⟩
  refine ty_iast (F2 := (mF cI cL cC gC gE gW gA gT gI gS gM q_55 F S N gH gJ ge gk gf gs gg gr RN gb rV rN)) hx hb hK hG hS 0 at_53 (by rw [h_8]; rfl) rfl b_54 (by rw [h_8]; show _ = _; rw [eq_55]) (fun hG b hb h0 => by obtain ⟨e, g1, g2⟩ := hG b h0; exact ⟨e, g1, mF_K (fun h => hb (uq b r_7 (h.trans h_8.symm) h0)) g2⟩) dX10_lays_16 (fun H locs hG hS at_56 o_57 => ?_)
  have at_52 := va_at.keptK at_52 o_57 h_8 k_a0 rfl
  refine lv_aload_n hx hb dX10_lays_17 rfl (lv_at hl 1 rfl) ?_
  refine va_get (D := D) (ci := 9) (v := .ref r_9) (C := RX10) (T := TX10) (N := 36) hx hb hts in10 hown hK (va_one at_52) 0 rfl rfl 5 (by decide) (hts (.fieldLink RX10 16 "RiverModelModel" "first" "[I") (List.mem_of_getElem? (i := 3) rfl)) (fun _ h9 => h9) rfl dX10_lays_18 ?_
  refine lv_iload_n hx hb dX10_lays_21 rfl (lv_at hl 0 rfl) ?_
  refine lv_pc (pc2 := 22) rfl ?_
  refine lv_aload_n hx hb dX10_lays_22 rfl (lv_at hl 1 rfl) ?_
  refine va_get (D := D) (ci := 9) (v := .int gf) (C := RX10) (T := TX10) (N := 36) hx hb hts in10 hown hK (va_one at_52) 0 rfl rfl 29 (by decide) (hts (.fieldLink RX10 135 "RiverModelModel" "readFirst" "I") (List.mem_of_getElem? (i := 4) rfl)) (fun _ h9 => h9) rfl dX10_lays_23 ?_
  have at_58 := mF_o43 hG h_10
  have b_59 : vp_in x_3 120 := (q_in (by omega) (by omega))
  obtain ⟨q_60, eq_60⟩ : ∃ q : Nat → Int32, q = upd F x_3.toNatClampNeg gf := ⟨_, rfl⟩
  refine ty_iast (F2 := (mF cI cL cC gC gE gW gA gT gI gS gM q_55 q_60 S N gH gJ ge gk gf gs gg gr RN gb rV rN)) hx hb hK hG hS 0 at_58 (by rw [h_10]; rfl) rfl b_59 (by rw [h_10]; show _ = _; rw [eq_60]) (fun hG b hb h0 => by obtain ⟨e, g1, g2⟩ := hG b h0; exact ⟨e, g1, mF_F (fun h => hb (uq b r_9 (h.trans h_10.symm) h0)) g2⟩) dX10_lays_26 (fun H locs hG hS at_61 o_62 => ?_)
  have at_52 := va_at.keptK at_52 o_62 h_10 k_a0 rfl
  refine lv_aload_n hx hb dX10_lays_27 rfl (lv_at hl 1 rfl) ?_
  refine va_get (D := D) (ci := 9) (v := .ref r_11) (C := RX10) (T := TX10) (N := 36) hx hb hts in10 hown hK (va_one at_52) 0 rfl rfl 6 (by decide) (hts (.fieldLink RX10 19 "RiverModelModel" "second" "[I") (List.mem_of_getElem? (i := 5) rfl)) (fun _ h9 => h9) rfl dX10_lays_28 ?_
  refine lv_iload_n hx hb dX10_lays_31 rfl (lv_at hl 0 rfl) ?_
  refine lv_aload_n hx hb dX10_lays_32 rfl (lv_at hl 1 rfl) ?_
  refine va_get (D := D) (ci := 9) (v := .int gs) (C := RX10) (T := TX10) (N := 36) hx hb hts in10 hown hK (va_one at_52) 0 rfl rfl 30 (by decide) (hts (.fieldLink RX10 138 "RiverModelModel" "readSecond" "I") (List.mem_of_getElem? (i := 6) rfl)) (fun _ h9 => h9) rfl dX10_lays_33 ?_
  refine lv_pc (pc2 := 36) rfl ?_
  have at_63 := mF_o44 hG h_12
  have b_64 : vp_in x_3 120 := (q_in (by omega) (by omega))
  obtain ⟨q_65, eq_65⟩ : ∃ q : Nat → Int32, q = upd S x_3.toNatClampNeg gs := ⟨_, rfl⟩
  refine ty_iast (F2 := (mF cI cL cC gC gE gW gA gT gI gS gM q_55 q_60 q_65 N gH gJ ge gk gf gs gg gr RN gb rV rN)) hx hb hK hG hS 0 at_63 (by rw [h_12]; rfl) rfl b_64 (by rw [h_12]; show _ = _; rw [eq_65]) (fun hG b hb h0 => by obtain ⟨e, g1, g2⟩ := hG b h0; exact ⟨e, g1, mF_S (fun h => hb (uq b r_11 (h.trans h_12.symm) h0)) g2⟩) dX10_lays_36 (fun H locs hG hS at_66 o_67 => ?_)
  have at_52 := va_at.keptK at_52 o_67 h_12 k_a0 rfl
  refine lv_iconst (v := 0) hx hb dX10_lays_37 (by decide) ?_
  refine lv_istore (lv' := [(4, .int 0), (3, .int x_3), (0, .ref a0), (1, .int a1), (2, .int a2)]) hx hb dX10_lays_38 hl (by decide) rfl (fun ls hl => ?_)
  refine lv_iload hx hb dX10_lays_40 (lv_at hl 0 rfl) ?_
  refine lv_iconst (v := 3) hx hb dX10_lays_42 (by decide) ?_
  refine lv_icmp_ge (tgt := 70) hx hb dX10_lays_43 (by decide) (fun q => absurd q (by decide)) (fun _ => ?_)
  refine lv_aload_n hx hb dX10_lays_46 rfl (lv_at hl 2 rfl) ?_
  refine va_get (D := D) (ci := 9) (v := .ref r_13) (C := RX10) (T := TX10) (N := 36) hx hb hts in10 hown hK (va_one at_52) 0 rfl rfl 7 (by decide) (hts (.fieldLink RX10 22 "RiverModelModel" "number" "[I") (List.mem_of_getElem? (i := 7) rfl)) (fun _ h9 => h9) rfl dX10_lays_47 ?_
  refine lv_pc (pc2 := 50) rfl ?_
  refine lv_iconst (v := 3) hx hb dX10_lays_50 (by decide) ?_
  refine lv_iload_n hx hb dX10_lays_51 rfl (lv_at hl 1 rfl) ?_
  refine lv_imul hx hb dX10_lays_52 ?_
  refine lv_topi (fun x_68 e_69 => ?_)
  have i_x_68 : x_68.toInt = 3 * x_3.toInt := by rw [e_69]; exact (q_mul (by rw [show (3 : Int32).toInt = 3 by decide]; omega) (by rw [show (3 : Int32).toInt = 3 by decide]; omega)).trans (by rw [show (3 : Int32).toInt = 3 by decide])
  refine lv_iload hx hb dX10_lays_53 (lv_at hl 0 rfl) ?_
  refine lv_iadd hx hb dX10_lays_55 ?_
  refine lv_topi (fun x_70 e_71 => ?_)
  have i_x_70 : x_70.toInt = x_68.toInt + 0 := by rw [e_71]; exact (q_add (by rw [show (0 : Int32).toInt = 0 by decide]; omega) (by rw [show (0 : Int32).toInt = 0 by decide]; omega)).trans (by rw [show (0 : Int32).toInt = 0 by decide])
  refine lv_aload_n hx hb dX10_lays_56 rfl (lv_at hl 2 rfl) ?_
  refine va_get (D := D) (ci := 9) (v := .ref r_47) (C := RX10) (T := TX10) (N := 36) hx hb hts in10 hown hK (va_one at_52) 0 rfl rfl 32 (by decide) (hts (.fieldLink RX10 74 "RiverModelModel" "readNumber" "[I") (List.mem_of_getElem? (i := 8) rfl)) (fun _ h9 => h9) rfl dX10_lays_57 ?_
  refine lv_iload hx hb dX10_lays_60 (lv_at hl 0 rfl) ?_
  refine lv_pc (pc2 := 62) rfl ?_
  have at_72 := mF_o62 hG h_48
  have b_73 : vp_in 0 3 := (q_in (by decide) (by decide))
  refine va_iald hx hb hK (va_one at_72) 0 0 rfl rfl b_73 dX10_lays_62 ?_
  refine lv_topi (fun x_74 e_75 => ?_)
  have w_x_74 : x_74 = RN 0 := by rw [e_75]; rfl
  have i_x_74 : x_74.toInt = (RN 0).toInt := by rw [w_x_74]
  have at_76 := mF_o45 hG h_14
  have b_77 : vp_in x_70 360 := (q_in (by omega) (by omega))
  obtain ⟨q_78, eq_78⟩ : ∃ q : Nat → Int32, q = upd N x_70.toNatClampNeg x_74 := ⟨_, rfl⟩
  refine ty_iast (F2 := (mF cI cL cC gC gE gW gA gT gI gS gM q_55 q_60 q_65 q_78 gH gJ ge gk gf gs gg gr RN gb rV rN)) hx hb hK hG hS 0 at_76 (by rw [h_14]; rfl) rfl b_77 (by rw [h_14]; show _ = _; rw [eq_78]) (fun hG b hb h0 => by obtain ⟨e, g1, g2⟩ := hG b h0; exact ⟨e, g1, mF_N (fun h => hb (uq b r_13 (h.trans h_14.symm) h0)) g2⟩) dX10_lays_63 (fun H locs hG hS at_79 o_80 => ?_)
  have at_52 := va_at.keptK at_52 o_80 h_14 k_a0 rfl
  have at_72 := va_at.keptK at_72 o_80 h_14 h_48 rfl
  refine lv_iinc (v := 1) (lv' := [(4, .int 1), (3, .int x_3), (0, .ref a0), (1, .int a1), (2, .int a2)]) hx hb dX10_lays_64 hl (k := 0) rfl (by decide) (by decide) rfl (fun ls hl => ?_)
  refine lv_goto (tgt := 40) hx hb dX10_lays_67 (by decide) ?_
  refine lv_iload hx hb dX10_lays_40 (lv_at hl 0 rfl) ?_
  refine lv_iconst (v := 3) hx hb dX10_lays_42 (by decide) ?_
  refine lv_icmp_ge (tgt := 70) hx hb dX10_lays_43 (by decide) (fun q => absurd q (by decide)) (fun _ => ?_)
  refine lv_aload_n hx hb dX10_lays_46 rfl (lv_at hl 2 rfl) ?_
  refine lv_pc (pc2 := 47) rfl ?_
  refine va_get (D := D) (ci := 9) (v := .ref r_13) (C := RX10) (T := TX10) (N := 36) hx hb hts in10 hown hK (va_one at_52) 0 rfl rfl 7 (by decide) (hts (.fieldLink RX10 22 "RiverModelModel" "number" "[I") (List.mem_of_getElem? (i := 7) rfl)) (fun _ h9 => h9) rfl dX10_lays_47 ?_
  refine lv_iconst (v := 3) hx hb dX10_lays_50 (by decide) ?_
  refine lv_iload_n hx hb dX10_lays_51 rfl (lv_at hl 1 rfl) ?_
  refine lv_imul hx hb dX10_lays_52 ?_
  refine lv_topi (fun x_81 e_82 => ?_)
  have i_x_81 : x_81.toInt = 3 * x_3.toInt := by rw [e_82]; exact (q_mul (by rw [show (3 : Int32).toInt = 3 by decide]; omega) (by rw [show (3 : Int32).toInt = 3 by decide]; omega)).trans (by rw [show (3 : Int32).toInt = 3 by decide])
  refine lv_iload hx hb dX10_lays_53 (lv_at hl 0 rfl) ?_
  refine lv_iadd hx hb dX10_lays_55 ?_
  refine lv_topi (fun x_83 e_84 => ?_)
  have i_x_83 : x_83.toInt = x_81.toInt + 1 := by rw [e_84]; exact (q_add (by rw [show (1 : Int32).toInt = 1 by decide]; omega) (by rw [show (1 : Int32).toInt = 1 by decide]; omega)).trans (by rw [show (1 : Int32).toInt = 1 by decide])
  refine lv_aload_n hx hb dX10_lays_56 rfl (lv_at hl 2 rfl) ?_
  refine va_get (D := D) (ci := 9) (v := .ref r_47) (C := RX10) (T := TX10) (N := 36) hx hb hts in10 hown hK (va_one at_52) 0 rfl rfl 32 (by decide) (hts (.fieldLink RX10 74 "RiverModelModel" "readNumber" "[I") (List.mem_of_getElem? (i := 8) rfl)) (fun _ h9 => h9) rfl dX10_lays_57 ?_
  refine lv_pc (pc2 := 60) rfl ?_
  refine lv_iload hx hb dX10_lays_60 (lv_at hl 0 rfl) ?_
  have b_85 : vp_in 1 3 := (q_in (by decide) (by decide))
  refine va_iald hx hb hK (va_one at_72) 0 0 rfl rfl b_85 dX10_lays_62 ?_
  refine lv_topi (fun x_86 e_87 => ?_)
  have w_x_86 : x_86 = RN 1 := by rw [e_87]; rfl
  have i_x_86 : x_86.toInt = (RN 1).toInt := by rw [w_x_86]
  have at_88 := mF_o45 hG h_14
  have b_89 : vp_in x_83 360 := (q_in (by omega) (by omega))
  obtain ⟨q_90, eq_90⟩ : ∃ q : Nat → Int32, q = upd q_78 x_83.toNatClampNeg x_86 := ⟨_, rfl⟩
  refine ty_iast (F2 := (mF cI cL cC gC gE gW gA gT gI gS gM q_55 q_60 q_65 q_90 gH gJ ge gk gf gs gg gr RN gb rV rN)) hx hb hK hG hS 0 at_88 (by rw [h_14]; rfl) rfl b_89 (by rw [h_14]; show _ = _; rw [eq_90]) (fun hG b hb h0 => by obtain ⟨e, g1, g2⟩ := hG b h0; exact ⟨e, g1, mF_N (fun h => hb (uq b r_13 (h.trans h_14.symm) h0)) g2⟩) dX10_lays_63 (fun H locs hG hS at_91 o_92 => ?_)
  have at_52 := va_at.keptK at_52 o_92 h_14 k_a0 rfl
  have at_72 := va_at.keptK at_72 o_92 h_14 h_48 rfl
  refine lv_iinc (v := 2) (lv' := [(4, .int 2), (3, .int x_3), (0, .ref a0), (1, .int a1), (2, .int a2)]) hx hb dX10_lays_64 hl (k := 0) rfl (by decide) (by decide) rfl (fun ls hl => ?_)
  refine lv_goto (tgt := 40) hx hb dX10_lays_67 (by decide) ?_
  refine lv_iload hx hb dX10_lays_40 (lv_at hl 0 rfl) ?_
  refine lv_iconst (v := 3) hx hb dX10_lays_42 (by decide) ?_
  refine lv_icmp_ge (tgt := 70) hx hb dX10_lays_43 (by decide) (fun q => absurd q (by decide)) (fun _ => ?_)
  refine lv_pc (pc2 := 46) rfl ?_
  refine lv_aload_n hx hb dX10_lays_46 rfl (lv_at hl 2 rfl) ?_
  refine va_get (D := D) (ci := 9) (v := .ref r_13) (C := RX10) (T := TX10) (N := 36) hx hb hts in10 hown hK (va_one at_52) 0 rfl rfl 7 (by decide) (hts (.fieldLink RX10 22 "RiverModelModel" "number" "[I") (List.mem_of_getElem? (i := 7) rfl)) (fun _ h9 => h9) rfl dX10_lays_47 ?_
  refine lv_iconst (v := 3) hx hb dX10_lays_50 (by decide) ?_
  refine lv_iload_n hx hb dX10_lays_51 rfl (lv_at hl 1 rfl) ?_
  refine lv_imul hx hb dX10_lays_52 ?_
  refine lv_topi (fun x_93 e_94 => ?_)
  have i_x_93 : x_93.toInt = 3 * x_3.toInt := by rw [e_94]; exact (q_mul (by rw [show (3 : Int32).toInt = 3 by decide]; omega) (by rw [show (3 : Int32).toInt = 3 by decide]; omega)).trans (by rw [show (3 : Int32).toInt = 3 by decide])
  refine lv_iload hx hb dX10_lays_53 (lv_at hl 0 rfl) ?_
  refine lv_iadd hx hb dX10_lays_55 ?_
  refine lv_topi (fun x_95 e_96 => ?_)
  have i_x_95 : x_95.toInt = x_93.toInt + 2 := by rw [e_96]; exact (q_add (by rw [show (2 : Int32).toInt = 2 by decide]; omega) (by rw [show (2 : Int32).toInt = 2 by decide]; omega)).trans (by rw [show (2 : Int32).toInt = 2 by decide])
  refine lv_aload_n hx hb dX10_lays_56 rfl (lv_at hl 2 rfl) ?_
  refine lv_pc (pc2 := 57) rfl ?_
  refine va_get (D := D) (ci := 9) (v := .ref r_47) (C := RX10) (T := TX10) (N := 36) hx hb hts in10 hown hK (va_one at_52) 0 rfl rfl 32 (by decide) (hts (.fieldLink RX10 74 "RiverModelModel" "readNumber" "[I") (List.mem_of_getElem? (i := 8) rfl)) (fun _ h9 => h9) rfl dX10_lays_57 ?_
  refine lv_iload hx hb dX10_lays_60 (lv_at hl 0 rfl) ?_
  have b_97 : vp_in 2 3 := (q_in (by decide) (by decide))
  refine va_iald hx hb hK (va_one at_72) 0 0 rfl rfl b_97 dX10_lays_62 ?_
  refine lv_topi (fun x_98 e_99 => ?_)
  have w_x_98 : x_98 = RN 2 := by rw [e_99]; rfl
  have i_x_98 : x_98.toInt = (RN 2).toInt := by rw [w_x_98]
  have at_100 := mF_o45 hG h_14
  have b_101 : vp_in x_95 360 := (q_in (by omega) (by omega))
  obtain ⟨q_102, eq_102⟩ : ∃ q : Nat → Int32, q = upd q_90 x_95.toNatClampNeg x_98 := ⟨_, rfl⟩
  refine ty_iast (F2 := (mF cI cL cC gC gE gW gA gT gI gS gM q_55 q_60 q_65 q_102 gH gJ ge gk gf gs gg gr RN gb rV rN)) hx hb hK hG hS 0 at_100 (by rw [h_14]; rfl) rfl b_101 (by rw [h_14]; show _ = _; rw [eq_102]) (fun hG b hb h0 => by obtain ⟨e, g1, g2⟩ := hG b h0; exact ⟨e, g1, mF_N (fun h => hb (uq b r_13 (h.trans h_14.symm) h0)) g2⟩) dX10_lays_63 (fun H locs hG hS at_103 o_104 => ?_)
  have at_52 := va_at.keptK at_52 o_104 h_14 k_a0 rfl
  have at_72 := va_at.keptK at_72 o_104 h_14 h_48 rfl
  refine lv_iinc (v := 3) (lv' := [(4, .int 3), (3, .int x_3), (0, .ref a0), (1, .int a1), (2, .int a2)]) hx hb dX10_lays_64 hl (k := 0) rfl (by decide) (by decide) rfl (fun ls hl => ?_)
  refine lv_goto (tgt := 40) hx hb dX10_lays_67 (by decide) ?_
  refine lv_iload hx hb dX10_lays_40 (lv_at hl 0 rfl) ?_
  refine lv_iconst (v := 3) hx hb dX10_lays_42 (by decide) ?_
  refine lv_pc (pc2 := 43) rfl ?_
  refine lv_icmp_ge (tgt := 70) hx hb dX10_lays_43 (by decide) (fun _ => ?_) (fun q => absurd (by decide) q)
  exact tx_vret (z := (q_55, q_60, q_65, q_102)) hx hb hr hlk hG hS ⟨(by show q_55 = upd K (A + a2.toInt).toNat gk; rw [eq_55, q_clE (x := x_3) (n := A + a2.toInt) (by omega)]), (by show q_60 = upd F (A + a2.toInt).toNat gf; rw [eq_60, q_clE (x := x_3) (n := A + a2.toInt) (by omega)]), (by show q_65 = upd S (A + a2.toInt).toNat gs; rw [eq_65, q_clE (x := x_3) (n := A + a2.toInt) (by omega)]), (by show q_102 = upd (upd (upd N (3 * (A + a2.toInt)).toNat (RN 0)) (3 * (A + a2.toInt) + 1).toNat (RN 1)) (3 * (A + a2.toInt) + 2).toNat (RN 2); rw [eq_102, eq_90, eq_78, w_x_98, w_x_86, w_x_74, q_clE (x := x_95) (n := 3 * (A + a2.toInt) + 2) (by omega), q_clE (x := x_83) (n := 3 * (A + a2.toInt) + 1) (by omega), q_clE (x := x_70) (n := 3 * (A + a2.toInt)) (by omega)])⟩ dX10_lays_70
