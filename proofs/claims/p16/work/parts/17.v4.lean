theorem dX1_unsetAll_0 : decode cX1_unsetAll 0 = .ok (.aload_n 0, 1) := by decide +kernel
theorem dX1_unsetAll_1 : decode cX1_unsetAll 1 = .ok (.getfield 9, 3) := by decide +kernel
theorem dX1_unsetAll_4 : decode cX1_unsetAll 4 = .ok (.bipush (-4), 2) := by decide +kernel
theorem dX1_unsetAll_6 : decode cX1_unsetAll 6 = .ok (.invokestatic 25, 3) := by decide +kernel
theorem dX1_unsetAll_9 : decode cX1_unsetAll 9 = .ok (.aload_n 0, 1) := by decide +kernel
theorem dX1_unsetAll_10 : decode cX1_unsetAll 10 = .ok (.getfield 18, 3) := by decide +kernel
theorem dX1_unsetAll_13 : decode cX1_unsetAll 13 = .ok (.iconst (-1), 1) := by decide +kernel
theorem dX1_unsetAll_14 : decode cX1_unsetAll 14 = .ok (.invokestatic 25, 3) := by decide +kernel
theorem dX1_unsetAll_17 : decode cX1_unsetAll 17 = .ok (.return_, 1) := by decide +kernel
theorem dX1_set_0 : decode cX1_set 0 = .ok (.iload_n 1, 1) := by decide +kernel
theorem dX1_set_1 : decode cX1_set 1 = .ok (.invokestatic 31, 3) := by decide +kernel
theorem dX1_set_4 : decode cX1_set 4 = .ok (.ifCond .eq 4, 3) := by decide +kernel
theorem dX1_set_7 : decode cX1_set 7 = .ok (.return_, 1) := by decide +kernel
theorem dX1_set_8 : decode cX1_set 8 = .ok (.aload_n 0, 1) := by decide +kernel
theorem dX1_set_9 : decode cX1_set 9 = .ok (.getfield 9, 3) := by decide +kernel
theorem dX1_set_12 : decode cX1_set 12 = .ok (.iload_n 1, 1) := by decide +kernel
theorem dX1_set_13 : decode cX1_set 13 = .ok (.iload_n 2, 1) := by decide +kernel
theorem dX1_set_14 : decode cX1_set 14 = .ok (.iastore, 1) := by decide +kernel
theorem dX1_set_15 : decode cX1_set 15 = .ok (.aload_n 0, 1) := by decide +kernel
theorem dX1_set_16 : decode cX1_set 16 = .ok (.getfield 15, 3) := by decide +kernel
theorem dX1_set_19 : decode cX1_set 19 = .ok (.iload_n 1, 1) := by decide +kernel
theorem dX1_set_20 : decode cX1_set 20 = .ok (.iload_n 3, 1) := by decide +kernel
theorem dX1_set_21 : decode cX1_set 21 = .ok (.iastore, 1) := by decide +kernel
theorem dX1_set_22 : decode cX1_set 22 = .ok (.iconst 0, 1) := by decide +kernel
theorem dX1_set_23 : decode cX1_set 23 = .ok (.istore 4, 2) := by decide +kernel
theorem dX1_set_25 : decode cX1_set 25 = .ok (.iload 4, 2) := by decide +kernel
theorem dX1_set_27 : decode cX1_set 27 = .ok (.bipush 96, 2) := by decide +kernel
theorem dX1_set_29 : decode cX1_set 29 = .ok (.if_icmp .ge 22, 3) := by decide +kernel
theorem dX1_set_32 : decode cX1_set 32 = .ok (.aload_n 0, 1) := by decide +kernel
theorem dX1_set_33 : decode cX1_set 33 = .ok (.getfield 18, 3) := by decide +kernel
theorem dX1_set_36 : decode cX1_set 36 = .ok (.iload_n 1, 1) := by decide +kernel
theorem dX1_set_37 : decode cX1_set 37 = .ok (.bipush 96, 2) := by decide +kernel
theorem dX1_set_39 : decode cX1_set 39 = .ok (.imul, 1) := by decide +kernel
theorem dX1_set_40 : decode cX1_set 40 = .ok (.iload 4, 2) := by decide +kernel
theorem dX1_set_42 : decode cX1_set 42 = .ok (.iadd, 1) := by decide +kernel
theorem dX1_set_43 : decode cX1_set 43 = .ok (.iconst (-1), 1) := by decide +kernel
theorem dX1_set_44 : decode cX1_set 44 = .ok (.iastore, 1) := by decide +kernel
theorem dX1_set_45 : decode cX1_set 45 = .ok (.iinc 4 1, 3) := by decide +kernel
theorem dX1_set_48 : decode cX1_set 48 = .ok (.goto (-23), 3) := by decide +kernel
theorem dX1_set_51 : decode cX1_set 51 = .ok (.return_, 1) := by decide +kernel
theorem dX1_isSet_0 : decode cX1_isSet 0 = .ok (.iload_n 1, 1) := by decide +kernel
theorem dX1_isSet_1 : decode cX1_isSet 1 = .ok (.ifCond .lt 23, 3) := by decide +kernel
theorem dX1_isSet_4 : decode cX1_isSet 4 = .ok (.iload_n 1, 1) := by decide +kernel
theorem dX1_isSet_5 : decode cX1_isSet 5 = .ok (.iconst 4, 1) := by decide +kernel
theorem dX1_isSet_6 : decode cX1_isSet 6 = .ok (.if_icmp .ge 18, 3) := by decide +kernel
theorem dX1_isSet_9 : decode cX1_isSet 9 = .ok (.aload_n 0, 1) := by decide +kernel
theorem dX1_isSet_10 : decode cX1_isSet 10 = .ok (.getfield 9, 3) := by decide +kernel
theorem dX1_isSet_13 : decode cX1_isSet 13 = .ok (.iload_n 1, 1) := by decide +kernel
theorem dX1_isSet_14 : decode cX1_isSet 14 = .ok (.iaload, 1) := by decide +kernel
theorem dX1_isSet_15 : decode cX1_isSet 15 = .ok (.bipush (-4), 2) := by decide +kernel
theorem dX1_isSet_17 : decode cX1_isSet 17 = .ok (.if_icmp .eq 7, 3) := by decide +kernel
theorem dX1_isSet_20 : decode cX1_isSet 20 = .ok (.iconst 1, 1) := by decide +kernel
theorem dX1_isSet_21 : decode cX1_isSet 21 = .ok (.goto 4, 3) := by decide +kernel
theorem dX1_isSet_24 : decode cX1_isSet 24 = .ok (.iconst 0, 1) := by decide +kernel
theorem dX1_isSet_25 : decode cX1_isSet 25 = .ok (.ireturn, 1) := by decide +kernel
theorem dX4_empty_0 : decode cX4_empty 0 = .ok (.aload_n 0, 1) := by decide +kernel
theorem dX4_empty_1 : decode cX4_empty 1 = .ok (.iconst 0, 1) := by decide +kernel
theorem dX4_empty_2 : decode cX4_empty 2 = .ok (.putfield 21, 3) := by decide +kernel
theorem dX4_empty_5 : decode cX4_empty 5 = .ok (.aload_n 0, 1) := by decide +kernel
theorem dX4_empty_6 : decode cX4_empty 6 = .ok (.iconst 0, 1) := by decide +kernel
theorem dX4_empty_7 : decode cX4_empty 7 = .ok (.putfield 25, 3) := by decide +kernel
theorem dX4_empty_10 : decode cX4_empty 10 = .ok (.aload_n 0, 1) := by decide +kernel
theorem dX4_empty_11 : decode cX4_empty 11 = .ok (.iconst 0, 1) := by decide +kernel
theorem dX4_empty_12 : decode cX4_empty 12 = .ok (.putfield 28, 3) := by decide +kernel
theorem dX4_empty_15 : decode cX4_empty 15 = .ok (.aload_n 0, 1) := by decide +kernel
theorem dX4_empty_16 : decode cX4_empty 16 = .ok (.getfield 15, 3) := by decide +kernel
theorem dX4_empty_19 : decode cX4_empty 19 = .ok (.bipush (-4), 2) := by decide +kernel
theorem dX4_empty_21 : decode cX4_empty 21 = .ok (.invokestatic 31, 3) := by decide +kernel
theorem dX4_empty_24 : decode cX4_empty 24 = .ok (.aload_n 0, 1) := by decide +kernel
theorem dX4_empty_25 : decode cX4_empty 25 = .ok (.getfield 18, 3) := by decide +kernel
theorem dX4_empty_28 : decode cX4_empty 28 = .ok (.bipush (-4), 2) := by decide +kernel
theorem dX4_empty_30 : decode cX4_empty 30 = .ok (.invokestatic 31, 3) := by decide +kernel
theorem dX4_empty_33 : decode cX4_empty 33 = .ok (.return_, 1) := by decide +kernel
theorem dX7_append_0 : decode cX7_append 0 = .ok (.iload_n 1, 1) := by decide +kernel
theorem dX7_append_1 : decode cX7_append 1 = .ok (.iconst 1, 1) := by decide +kernel
theorem dX7_append_2 : decode cX7_append 2 = .ok (.isub, 1) := by decide +kernel
theorem dX7_append_3 : decode cX7_append 3 = .ok (.istore 4, 2) := by decide +kernel
theorem dX7_append_5 : decode cX7_append 5 = .ok (.iload 4, 2) := by decide +kernel
theorem dX7_append_7 : decode cX7_append 7 = .ok (.ifCond .lt 50, 3) := by decide +kernel
theorem dX7_append_10 : decode cX7_append 10 = .ok (.aload_n 0, 1) := by decide +kernel
theorem dX7_append_11 : decode cX7_append 11 = .ok (.getfield 18, 3) := by decide +kernel
theorem dX7_append_14 : decode cX7_append 14 = .ok (.sipush 400, 3) := by decide +kernel
theorem dX7_append_17 : decode cX7_append 17 = .ok (.if_icmp .ge 40, 3) := by decide +kernel
theorem dX7_append_20 : decode cX7_append 20 = .ok (.aload_n 0, 1) := by decide +kernel
theorem dX7_append_21 : decode cX7_append 21 = .ok (.getfield 9, 3) := by decide +kernel
theorem dX7_append_24 : decode cX7_append 24 = .ok (.aload_n 0, 1) := by decide +kernel
theorem dX7_append_25 : decode cX7_append 25 = .ok (.getfield 18, 3) := by decide +kernel
theorem dX7_append_28 : decode cX7_append 28 = .ok (.lload_n 2, 1) := by decide +kernel
theorem dX7_append_29 : decode cX7_append 29 = .ok (.bipush 8, 2) := by decide +kernel
theorem dX7_append_31 : decode cX7_append 31 = .ok (.iload 4, 2) := by decide +kernel
theorem dX7_append_33 : decode cX7_append 33 = .ok (.imul, 1) := by decide +kernel
theorem dX7_append_34 : decode cX7_append 34 = .ok (.lushr, 1) := by decide +kernel
theorem dX7_append_35 : decode cX7_append 35 = .ok (.l2i, 1) := by decide +kernel
theorem dX7_append_36 : decode cX7_append 36 = .ok (.sipush 255, 3) := by decide +kernel
theorem dX7_append_39 : decode cX7_append 39 = .ok (.iand, 1) := by decide +kernel
theorem dX7_append_40 : decode cX7_append 40 = .ok (.iastore, 1) := by decide +kernel
theorem dX7_append_41 : decode cX7_append 41 = .ok (.aload_n 0, 1) := by decide +kernel
theorem dX7_append_42 : decode cX7_append 42 = .ok (.dup, 1) := by decide +kernel
theorem dX7_append_43 : decode cX7_append 43 = .ok (.getfield 18, 3) := by decide +kernel
theorem dX7_append_46 : decode cX7_append 46 = .ok (.iconst 1, 1) := by decide +kernel
theorem dX7_append_47 : decode cX7_append 47 = .ok (.iadd, 1) := by decide +kernel
theorem dX7_append_48 : decode cX7_append 48 = .ok (.putfield 18, 3) := by decide +kernel
theorem dX7_append_51 : decode cX7_append 51 = .ok (.iinc 4 (-1), 3) := by decide +kernel
theorem dX7_append_54 : decode cX7_append 54 = .ok (.goto (-49), 3) := by decide +kernel
theorem dX7_append_57 : decode cX7_append 57 = .ok (.return_, 1) := by decide +kernel
theorem dX7_readInto_0 : decode cX7_readInto 0 = .ok (.aload_n 1, 1) := by decide +kernel
theorem dX7_readInto_1 : decode cX7_readInto 1 = .ok (.invokevirtual 25, 3) := by decide +kernel
theorem dX7_readInto_4 : decode cX7_readInto 4 = .ok (.aload_n 0, 1) := by decide +kernel
theorem dX7_readInto_5 : decode cX7_readInto 5 = .ok (.iconst 0, 1) := by decide +kernel
theorem dX7_readInto_6 : decode cX7_readInto 6 = .ok (.putfield 22, 3) := by decide +kernel
theorem dX7_readInto_9 : decode cX7_readInto 9 = .ok (.iconst 0, 1) := by decide +kernel
theorem dX7_readInto_10 : decode cX7_readInto 10 = .ok (.istore_n 2, 1) := by decide +kernel
theorem dX7_readInto_11 : decode cX7_readInto 11 = .ok (.iload_n 2, 1) := by decide +kernel
theorem dX7_readInto_12 : decode cX7_readInto 12 = .ok (.bipush 40, 2) := by decide +kernel
theorem dX7_readInto_14 : decode cX7_readInto 14 = .ok (.if_icmp .gt 59, 3) := by decide +kernel
theorem dX7_readInto_17 : decode cX7_readInto 17 = .ok (.aload_n 0, 1) := by decide +kernel
theorem dX7_readInto_18 : decode cX7_readInto 18 = .ok (.getfield 22, 3) := by decide +kernel
theorem dX7_readInto_21 : decode cX7_readInto 21 = .ok (.aload_n 0, 1) := by decide +kernel
theorem dX7_readInto_22 : decode cX7_readInto 22 = .ok (.getfield 18, 3) := by decide +kernel
theorem dX7_readInto_25 : decode cX7_readInto 25 = .ok (.if_icmp .ge 48, 3) := by decide +kernel
theorem dX7_readInto_28 : decode cX7_readInto 28 = .ok (.aload_n 0, 1) := by decide +kernel
theorem dX7_readInto_29 : decode cX7_readInto 29 = .ok (.getfield 22, 3) := by decide +kernel
theorem dX7_readInto_32 : decode cX7_readInto 32 = .ok (.istore_n 3, 1) := by decide +kernel
theorem dX7_readInto_33 : decode cX7_readInto 33 = .ok (.iload_n 2, 1) := by decide +kernel
theorem dX7_readInto_34 : decode cX7_readInto 34 = .ok (.bipush 40, 2) := by decide +kernel
theorem dX7_readInto_36 : decode cX7_readInto 36 = .ok (.if_icmp .eq 21, 3) := by decide +kernel
theorem dX7_readInto_39 : decode cX7_readInto 39 = .ok (.aload_n 0, 1) := by decide +kernel
theorem dX7_readInto_40 : decode cX7_readInto 40 = .ok (.invokevirtual 30, 3) := by decide +kernel
theorem dX7_readInto_43 : decode cX7_readInto 43 = .ok (.ifCond .eq 14, 3) := by decide +kernel
theorem dX7_readInto_46 : decode cX7_readInto 46 = .ok (.aload_n 1, 1) := by decide +kernel
theorem dX7_readInto_47 : decode cX7_readInto 47 = .ok (.aload_n 0, 1) := by decide +kernel
theorem dX7_readInto_48 : decode cX7_readInto 48 = .ok (.getfield 15, 3) := by decide +kernel
theorem dX7_readInto_51 : decode cX7_readInto 51 = .ok (.invokevirtual 34, 3) := by decide +kernel
theorem dX7_readInto_54 : decode cX7_readInto 54 = .ok (.ifCond .ne 5, 3) := by decide +kernel
theorem dX7_readInto_57 : decode cX7_readInto 57 = .ok (.iload_n 3, 1) := by decide +kernel
theorem dX7_readInto_58 : decode cX7_readInto 58 = .ok (.ireturn, 1) := by decide +kernel
theorem dX7_readInto_59 : decode cX7_readInto 59 = .ok (.aload_n 1, 1) := by decide +kernel
theorem dX7_readInto_60 : decode cX7_readInto 60 = .ok (.aload_n 0, 1) := by decide +kernel
theorem dX7_readInto_61 : decode cX7_readInto 61 = .ok (.getfield 15, 3) := by decide +kernel
theorem dX7_readInto_64 : decode cX7_readInto 64 = .ok (.invokevirtual 38, 3) := by decide +kernel
theorem dX7_readInto_67 : decode cX7_readInto 67 = .ok (.iinc 2 1, 3) := by decide +kernel
theorem dX7_readInto_70 : decode cX7_readInto 70 = .ok (.goto (-59), 3) := by decide +kernel
theorem dX7_readInto_73 : decode cX7_readInto 73 = .ok (.bipush (-4), 2) := by decide +kernel
theorem dX7_readInto_75 : decode cX7_readInto 75 = .ok (.ireturn, 1) := by decide +kernel
def uvX4_empty : List Cond := .code yX4_empty cX4_empty 1 none :: ([.fieldLink RX4 21 "RiverModel$Model" "many" "I", .fieldLink RX4 25 "RiverModel$Model" "stores" "I", .fieldLink RX4 28 "RiverModel$Model" "gates" "I", .fieldLink RX4 15 "RiverModel$Model" "storeItems" "[I", .methodLink RX4 31 yJ7_fill_53178, .static yJ7_fill_53178, .initialized RJ7, .fieldLink RX4 18 "RiverModel$Model" "gateItems" "[I", .code yJ7_fill_53178 cJ7_fill_53178 4 none] ++ wsX40)
set_option maxRecDepth 20000 in
theorem gu_vX4_empty_J7_fill_53178_31 : GoodIn uvX4_empty (va_wsS RX4 31 yJ7_fill_53178 wsJ7_fill_53178) := goodIn_r _ [5, 6, 7, 9] rfl (by decide +kernel)
set_option maxHeartbeats 4000000 in
set_option maxRecDepth 100000 in
theorem v_X4_empty (l : Launch) (D : va_G) (t : Nat → Nat) (cI cL cC : ClassId) (gC : Int32) (gP : Int32) (gT : Nat → Int32) (gR : Nat → Int32) (gm : Int32) (gs : Int32) (gg : Int32) (gL : Nat → Int32) (gQ : Nat → Int32) (gZ : Nat → Int32) (gE : Int32) (gV : Nat → Int32) (gU : Nat → Int32) (gN : Nat → Int32) (a0 : Nat) (uq : ∀ b c : Nat, t b = t c → t b ≠ 0 → b = c) (k_a0 : t a0 = 3) : tMx (Z := (Int32) × (Int32) × (Int32) × (Nat → Int32) × (Nat → Int32)) l yX4_empty uvX4_empty 1 23 D (rF cI cL cC gC gP gT gR gm gs gg gL gQ gZ gE gV gU gN) (fun z => (rF cI cL cC gC gP gT gR z.1 z.2.1 z.2.2.1 gL z.2.2.2.1 z.2.2.2.2 gE gV gU gN)) t cI cL cC [.ref a0] vM (xV (fun (z : (Int32) × (Int32) × (Int32) × (Nat → Int32) × (Nat → Int32)) => z.1.toInt = 0 ∧ z.2.1.toInt = 0 ∧ z.2.2.1.toInt = 0 ∧ (∀ j : Nat, j < 16 → z.2.2.2.1 j = -4))) := by
  refine tMx.ofW (cc := cX4_empty) (maxL := 1) (ret := none) (by decide) rfl (Nat.le_of_ble_eq_true rfl) ?_
  intro p e s m below meth c hx hb hr hml hown hts hlk H locs hG hK hE hS ls hl
  have hl : lv_has ls 1 [(0, .ref a0)] := hl
  have in4 : ∀ w ∈ wsX40, w ∈ uvX4_empty := fun w h => List.mem_cons_of_mem _ (List.mem_append_right _ h)
  refine lv_aload_n hx hb dX4_empty_0 rfl (lv_at hl 0 rfl) ?_
  refine lv_iconst (v := 0) hx hb dX4_empty_1 (by decide) ?_
  obtain ⟨r_1, r_3, r_5, at_7, h_2, h_4, h_6⟩ := rF_o3 hG k_a0
  have zi_0 : (0 : Int32).toInt = 0 := by decide
  refine ty_put (D := D) (ci := 3) (v := .int 0) (ty := .int) (C := RX4) (T := TX4) (N := 6) (F2 := (rF cI cL cC gC gP gT gR 0 gs gg gL gQ gZ gE gV gU gN)) hx hb hts in4 tyX4 tyX4_ok nmX4 hown hK hG hS at_7 (by rw [k_a0]; rfl) rfl 3 (by decide) (hts (.fieldLink RX4 21 "RiverModel$Model" "many" "I") (List.mem_of_getElem? (i := 1) rfl)) (fun _ h9 => h9) rfl (by decide +kernel) rfl rfl (Nat.le_of_ble_eq_true rfl) (by rw [k_a0]; exact ⟨r_1, r_3, r_5, rfl, h_2, h_4, h_6⟩) (fun hG b hb h0 => by obtain ⟨e, g1, g2⟩ := hG b h0; exact ⟨e, g1, rF_gm (fun h => hb (uq b a0 (h.trans k_a0.symm) h0)) g2⟩) dX4_empty_2 (fun H locs hG hS at_8 o_9 => ?_)
  have at_8 : va_at D vwCl (a0, .inr (3, [.ref r_1, .ref r_3, .ref r_5, .int 0, .int gs, .int gg])) H := at_8
  refine lv_aload_n hx hb dX4_empty_5 rfl (lv_at hl 0 rfl) ?_
  refine lv_iconst (v := 0) hx hb dX4_empty_6 (by decide) ?_
  refine ty_put (D := D) (ci := 3) (v := .int 0) (ty := .int) (C := RX4) (T := TX4) (N := 6) (F2 := (rF cI cL cC gC gP gT gR 0 0 gg gL gQ gZ gE gV gU gN)) hx hb hts in4 tyX4 tyX4_ok nmX4 hown hK hG hS at_8 (by rw [k_a0]; rfl) rfl 4 (by decide) (hts (.fieldLink RX4 25 "RiverModel$Model" "stores" "I") (List.mem_of_getElem? (i := 2) rfl)) (fun _ h9 => h9) rfl (by decide +kernel) rfl rfl (Nat.le_of_ble_eq_true rfl) (by rw [k_a0]; exact ⟨r_1, r_3, r_5, rfl, h_2, h_4, h_6⟩) (fun hG b hb h0 => by obtain ⟨e, g1, g2⟩ := hG b h0; exact ⟨e, g1, rF_gs (fun h => hb (uq b a0 (h.trans k_a0.symm) h0)) g2⟩) dX4_empty_7 (fun H locs hG hS at_10 o_11 => ?_)
  have at_10 : va_at D vwCl (a0, .inr (3, [.ref r_1, .ref r_3, .ref r_5, .int 0, .int 0, .int gg])) H := at_10
  refine lv_aload_n hx hb dX4_empty_10 rfl (lv_at hl 0 rfl) ?_
  refine lv_pc (pc2 := 11) rfl ?_
  refine lv_iconst (v := 0) hx hb dX4_empty_11 (by decide) ?_
  refine ty_put (D := D) (ci := 3) (v := .int 0) (ty := .int) (C := RX4) (T := TX4) (N := 6) (F2 := (rF cI cL cC gC gP gT gR 0 0 0 gL gQ gZ gE gV gU gN)) hx hb hts in4 tyX4 tyX4_ok nmX4 hown hK hG hS at_10 (by rw [k_a0]; rfl) rfl 5 (by decide) (hts (.fieldLink RX4 28 "RiverModel$Model" "gates" "I") (List.mem_of_getElem? (i := 3) rfl)) (fun _ h9 => h9) rfl (by decide +kernel) rfl rfl (Nat.le_of_ble_eq_true rfl) (by rw [k_a0]; exact ⟨r_1, r_3, r_5, rfl, h_2, h_4, h_6⟩) (fun hG b hb h0 => by obtain ⟨e, g1, g2⟩ := hG b h0; exact ⟨e, g1, rF_gg (fun h => hb (uq b a0 (h.trans k_a0.symm) h0)) g2⟩) dX4_empty_12 (fun H locs hG hS at_12 o_13 => ?_)
  have at_12 : va_at D vwCl (a0, .inr (3, [.ref r_1, .ref r_3, .ref r_5, .int 0, .int 0, .int 0])) H := at_12
  refine lv_aload_n hx hb dX4_empty_15 rfl (lv_at hl 0 rfl) ?_
  refine va_get (D := D) (ci := 3) (v := .ref r_3) (C := RX4) (T := TX4) (N := 6) hx hb hts in4 hown hK (va_one at_12) 0 rfl rfl 1 (by decide) (hts (.fieldLink RX4 15 "RiverModel$Model" "storeItems" "[I") (List.mem_of_getElem? (i := 4) rfl)) (fun _ h9 => h9) rfl dX4_empty_16 ?_
  refine lv_bipush (v := (-4)) hx hb dX4_empty_19 (by decide) ?_
  have at_14 := rF_o13 hG h_4
  refine nw_row (W.runS (As := [.ref r_3, .int (-4)]) (rest := []) ⟨hx, hb, hml, hown, hts⟩ (c_fillI l D cI cL cC r_3 16 gQ (-4) (by decide)) (va_cwS 2 hts gu_vX4_empty_J7_fill_53178_31 rfl rfl rfl (by decide +kernel) ⟨Nat.le_of_ble_eq_true rfl, Nat.le_of_ble_eq_true rfl⟩) (rP_S at_14 hE) rfl rfl hl.1 rfl (lv_room (Nat.le_of_ble_eq_true rfl)) dX4_empty_21 ⟨Nat.le_of_ble_eq_true rfl, Nat.le_of_ble_eq_true rfl⟩) (fun H L ee hp at_20 hz_18 o_16 hL_19 => ?_)
  obtain ⟨g_15, rfl, hg_17⟩ := hp
  replace hG : tG D (rF cI cL cC gC gP gT gR 0 0 0 gL g_15 gZ gE gV gU gN) t H := tG.setx hG at_20 (by rw [h_4]; exact rfl) (fun hG b hb h0 => by obtain ⟨e, g1, g2⟩ := hG b h0; exact ⟨e, g1, rF_gQ (fun h => hb (uq b r_3 (h.trans h_4.symm) h0)) g2⟩) o_16
  replace hS := tF.row hS hz_18 o_16 hL_19 (by rw [h_4]; rfl)
  generalize _ ++ L = locs at hS ⊢
  have at_12 := va_at.keptK at_12 o_16 h_4 k_a0 rfl
  refine lv_aload_n hx hb dX4_empty_24 rfl (lv_at hl 0 rfl) ?_
  refine va_get (D := D) (ci := 3) (v := .ref r_5) (C := RX4) (T := TX4) (N := 6) hx hb hts in4 hown hK (va_one at_12) 0 rfl rfl 2 (by decide) (hts (.fieldLink RX4 18 "RiverModel$Model" "gateItems" "[I") (List.mem_of_getElem? (i := 8) rfl)) (fun _ h9 => h9) rfl dX4_empty_25 ?_
  refine lv_pc (pc2 := 28) rfl ?_
  refine lv_bipush (v := (-4)) hx hb dX4_empty_28 (by decide) ?_
  have at_21 := rF_o14 hG h_6
  refine nw_row (W.runS (As := [.ref r_5, .int (-4)]) (rest := []) ⟨hx, hb, hml, hown, hts⟩ (c_fillI l D cI cL cC r_5 4 gZ (-4) (by decide)) (va_cwS 2 hts gu_vX4_empty_J7_fill_53178_31 rfl rfl rfl (by decide +kernel) ⟨Nat.le_of_ble_eq_true rfl, Nat.le_of_ble_eq_true rfl⟩) (rP_S at_21 hE) rfl rfl hl.1 rfl (lv_room (Nat.le_of_ble_eq_true rfl)) dX4_empty_30 ⟨Nat.le_of_ble_eq_true rfl, Nat.le_of_ble_eq_true rfl⟩) (fun H L ee hp at_27 hz_25 o_23 hL_26 => ?_)
  obtain ⟨g_22, rfl, hg_24⟩ := hp
  replace hG : tG D (rF cI cL cC gC gP gT gR 0 0 0 gL g_15 g_22 gE gV gU gN) t H := tG.setx hG at_27 (by rw [h_6]; exact rfl) (fun hG b hb h0 => by obtain ⟨e, g1, g2⟩ := hG b h0; exact ⟨e, g1, rF_gZ (fun h => hb (uq b r_5 (h.trans h_6.symm) h0)) g2⟩) o_23
  replace hS := tF.row hS hz_25 o_23 hL_26 (by rw [h_6]; rfl)
  generalize _ ++ L = locs at hS ⊢
  have at_12 := va_at.keptK at_12 o_23 h_6 k_a0 rfl
  exact tx_vret (z := (0, 0, 0, g_15, g_22)) hx hb hr hlk hG hS ⟨(by show (0 : Int32).toInt = 0; omega), (by show (0 : Int32).toInt = 0; omega), (by show (0 : Int32).toInt = 0; omega), hg_17⟩ dX4_empty_33

def uvX7_readInto : List Cond := .code yX7_readInto cX7_readInto 4 (some .int) :: ([.methodLink RX7 25 yX4_empty, .instanceMethod yX4_empty, .selects RX4 yX4_empty yX4_empty, .initialized RX4, .fieldLink RX7 22 "RiverModel$Text" "at" "I", .fieldLink RX7 18 "RiverModel$Text" "length" "I", .methodLink RX7 30 yX7_readItem, .instanceMethod yX7_readItem, .selects RX7 yX7_readItem yX7_readItem, .initialized RX7, .fieldLink RX7 15 "RiverModel$Text" "row" "[I", .methodLink RX7 34 yX4_mayFollow, .instanceMethod yX4_mayFollow, .selects RX4 yX4_mayFollow yX4_mayFollow, .methodLink RX7 38 yX4_add, .instanceMethod yX4_add, .selects RX4 yX4_add yX4_add, .code yX4_empty cX4_empty 1 none, .fieldLink RX4 21 "RiverModel$Model" "many" "I", .fieldLink RX4 25 "RiverModel$Model" "stores" "I", .fieldLink RX4 28 "RiverModel$Model" "gates" "I", .fieldLink RX4 15 "RiverModel$Model" "storeItems" "[I", .methodLink RX4 31 yJ7_fill_53178, .static yJ7_fill_53178, .initialized RJ7, .fieldLink RX4 18 "RiverModel$Model" "gateItems" "[I", .code yJ7_fill_53178 cJ7_fill_53178 4 none, .code yX7_readItem cX7_readItem 5 (some .boolean), .methodLink RX7 42 yJ7_fill_53178, .methodLink RX7 48 yX7_nextByte, .instanceMethod yX7_nextByte, .selects RX7 yX7_nextByte yX7_nextByte, .methodLink RX7 52 yX2_namesOf, .static yX2_namesOf, .initialized RX2, .methodLink RX7 62 yX2_numbersOf, .static yX2_numbersOf, .methodLink RX7 65 yX7_readNumber, .instanceMethod yX7_readNumber, .selects RX7 yX7_readNumber yX7_readNumber, .methodLink RX7 58 yX7_readName, .instanceMethod yX7_readName, .selects RX7 yX7_readName yX7_readName, .code yX7_nextByte cX7_nextByte 1 (some .int), .fieldLink RX7 9 "RiverModel$Text" "bytes" "[I", .code yX2_namesOf cX2_namesOf 1 (some .int), .code yX2_numbersOf cX2_numbersOf 1 (some .int), .code yX7_readNumber cX7_readNumber 4 (some .boolean), .methodLink RX7 71 yX7_isAtFigure, .instanceMethod yX7_isAtFigure, .selects RX7 yX7_isAtFigure yX7_isAtFigure, .code yX7_isAtFigure cX7_isAtFigure 1 (some .boolean), .initialized RX9, .static yX9_isOutside, .code yX9_isOutside cX9_isOutside 3 (some .boolean), .code yX7_readName cX7_readName 3 (some .boolean), .static yX9_isNoStore, .code yX9_isNoStore cX9_isNoStore 1 (some .boolean), .code yX4_mayFollow cX4_mayFollow 2 (some .boolean), .methodLink RX4 62 yX4_areNumbersAsTold, .static yX4_areNumbersAsTold, .methodLink RX4 69 yX4_areNamesAhead, .instanceMethod yX4_areNamesAhead, .selects RX4 yX4_areNamesAhead yX4_areNamesAhead, .methodLink RX4 66 yX4_hasStore, .instanceMethod yX4_hasStore, .selects RX4 yX4_hasStore yX4_hasStore, .code yX4_areNumbersAsTold cX4_areNumbersAsTold 1 (some .boolean), .methodLink RX4 77 yX2_areNumbersAsTold, .static yX2_areNumbersAsTold, .code yX2_areNumbersAsTold cX2_areNumbersAsTold 4 (some .boolean), .methodLink RX2 10 yX2_isUpTo, .static yX2_isUpTo, .constant RX2 9 (1000000), .code yX2_isUpTo cX2_isUpTo 2 (some .boolean), .code yX4_areNamesAhead cX4_areNamesAhead 5 (some .boolean), .methodLink RX4 82 yX4_isStoreAhead, .instanceMethod yX4_isStoreAhead, .selects RX4 yX4_isStoreAhead yX4_isStoreAhead, .code yX4_isStoreAhead cX4_isStoreAhead 3 (some .boolean), .code yX4_hasStore cX4_hasStore 2 (some .boolean), .code yX4_add cX4_add 2 none, .methodLink RX4 55 yX4_put, .instanceMethod yX4_put, .selects RX4 yX4_put yX4_put, .code yX4_put cX4_put 4 none, .methodLink RX4 51 yX4_putCell, .instanceMethod yX4_putCell, .selects RX4 yX4_putCell yX4_putCell, .code yX4_putCell cX4_putCell 4 none, .static yX9_isNoItem, .fieldLink RX4 9 "RiverModel$Model" "cells" "[I", .code yX9_isNoItem cX9_isNoItem 1 (some .boolean)] ++ wsX70 ++ wsX40)
set_option maxRecDepth 20000 in
theorem gu_vX7_readInto_vX4_empty_25 : GoodIn uvX7_readInto (wsV RX7 25 RX4 yX4_empty uvX4_empty) := goodIn_r _ [1, 2, 3, 4, 18, 19, 20, 21, 22, 23, 24, 25, 26, 27, 98, 99, 100, 101, 102, 103] rfl (by decide +kernel)
set_option maxRecDepth 20000 in
theorem gu_vX7_readInto_vX7_readItem_30 : GoodIn uvX7_readInto (wsV RX7 30 RX7 yX7_readItem uvX7_readItem) := goodIn_r _ [7, 8, 9, 10, 28, 11, 29, 24, 25, 30, 31, 32, 10, 33, 34, 35, 36, 37, 38, 39, 40, 41, 42, 43, 27, 44, 5, 6, 45, 46, 47, 48, 49, 50, 51, 52, 53, 54, 55, 56, 57, 58, 94, 95, 96, 97] rfl (by decide +kernel)
set_option maxRecDepth 20000 in
theorem gu_vX7_readInto_vX4_mayFollow_34 : GoodIn uvX7_readInto (wsV RX7 34 RX4 yX4_mayFollow uvX4_mayFollow) := goodIn_r _ [12, 13, 14, 4, 59, 60, 61, 4, 19, 62, 63, 64, 21, 65, 66, 67, 68, 69, 70, 35, 71, 72, 73, 74, 75, 76, 77, 78, 79, 80, 22, 81, 98, 99, 100, 101, 102, 103] rfl (by decide +kernel)
set_option maxRecDepth 20000 in
theorem gu_vX7_readInto_vX4_add_38 : GoodIn uvX7_readInto (wsV RX7 38 RX4 yX4_add uvX4_add) := goodIn_r _ [15, 16, 17, 4, 82, 19, 83, 84, 85, 4, 21, 26, 53, 57, 22, 20, 86, 87, 88, 89, 90, 91, 54, 92, 93, 55, 58, 98, 99, 100, 101, 102, 103] rfl (by decide +kernel)
set_option maxHeartbeats 4000000 in
set_option maxRecDepth 100000 in
theorem v_X7_readInto (l : Launch) (D : va_G) (t : Nat → Nat) (cI cL cC : ClassId) (gC : Int32) (gP : Int32) (gT : Nat → Int32) (gR : Nat → Int32) (gm : Int32) (gs : Int32) (gg : Int32) (gL : Nat → Int32) (gQ : Nat → Int32) (gZ : Nat → Int32) (gE : Int32) (gV : Nat → Int32) (gU : Nat → Int32) (gN : Nat → Int32) (a0 : Nat) (a1 : Nat) (uq : ∀ b c : Nat, t b = t c → t b ≠ 0 → b = c) (hC0 : 0 ≤ gC.toInt) (hC4 : gC.toInt ≤ 400) (hT : gBd 400 0 255 gT) (k_a0 : t a0 = 2) (k_a1 : t a1 = 3) : tMx (Z := (Int32) × (Nat → Int32) × (Int32) × (Int32) × (Int32) × (Nat → Int32) × (Nat → Int32) × (Nat → Int32)) l yX7_readInto uvX7_readInto 4 89 D (rF cI cL cC gC gP gT gR gm gs gg gL gQ gZ gE gV gU gN) (fun z => (rF cI cL cC gC z.1 gT z.2.1 z.2.2.1 z.2.2.2.1 z.2.2.2.2.1 z.2.2.2.2.2.1 z.2.2.2.2.2.2.1 z.2.2.2.2.2.2.2 gE gV gU gN)) t cI cL cC [.ref a0, .ref a1] vTM (xI (fun r (z : (Int32) × (Nat → Int32) × (Int32) × (Int32) × (Int32) × (Nat → Int32) × (Nat → Int32) × (Nat → Int32)) => rdR (byT gT gC) gC.toInt r.toInt z.2.2.2.2.2.1 z.2.2.2.2.2.2.1 z.2.2.1.toInt z.2.2.2.1.toInt z.2.2.2.2.1.toInt ∧ 0 ≤ z.1.toInt ∧ z.1.toInt ≤ 400 ∧ 0 ≤ z.2.2.2.2.1.toInt ∧ z.2.2.2.2.1.toInt ≤ 4)) := by
  refine tMx.ofW (cc := cX7_readInto) (maxL := 4) (ret := (some .int)) (by decide) rfl (Nat.le_of_ble_eq_true rfl) ?_
  intro p e s m below meth c hx hb hr hml hown hts hlk H locs hG hK hE hS ls hl
  have hl : lv_has ls 4 [(0, .ref a0), (1, .ref a1)] := hl
  have in7 : ∀ w ∈ wsX70, w ∈ uvX7_readInto := fun w h => List.mem_cons_of_mem _ (List.mem_append_left _ (List.mem_append_right _ h))
  refine lv_aload_n hx hb dX7_readInto_0 rfl (lv_at hl 1 rfl) ?_
  obtain ⟨r_1, r_3, r_5, at_7, h_2, h_4, h_6⟩ := rF_o3 hG k_a1
  refine tx_callv (W.runV (As := []) (rest := []) ⟨hx, hb, hml, hown, hts⟩ (v_X4_empty l D t cI cL cC gC gP gT gR gm gs gg gL gQ gZ gE gV gU gN a1  uq  k_a1) (cwV 0 hts gu_vX7_readInto_vX4_empty_25 rfl rfl rfl (by decide +kernel) ⟨Nat.le_of_ble_eq_true rfl, Nat.le_of_ble_eq_true rfl⟩) (tP_V hG hE at_7 rfl) rfl rfl hl.1 rfl (lv_room (Nat.le_of_ble_eq_true rfl)) dX7_readInto_1 ⟨Nat.le_of_ble_eq_true rfl, Nat.le_of_ble_eq_true rfl⟩) hS (wrL_sub (by decide)) (fun zz_11 H locs hp_9 hG hS o_10 => ?_)
  obtain ⟨gm_12, gs_13, gg_14, gQ_15, gZ_16⟩ := zz_11
  replace hG : tG D (rF cI cL cC gC gP gT gR gm_12 gs_13 gg_14 gL gQ_15 gZ_16 gE gV gU gN) t H := hG
  have hp_9 : gm_12.toInt = 0 ∧ gs_13.toInt = 0 ∧ gg_14.toInt = 0 ∧ (∀ j : Nat, j < 16 → gQ_15 j = -4) := hp_9
  obtain ⟨p_17, p_18, p_19, p_20⟩ := hp_9
  refine lv_aload_n hx hb dX7_readInto_4 rfl (lv_at hl 0 rfl) ?_
  refine lv_iconst (v := 0) hx hb dX7_readInto_5 (by decide) ?_
  obtain ⟨r_21, r_23, at_25, h_22, h_24⟩ := rF_o2 hG k_a0
  have zi_0 : (0 : Int32).toInt = 0 := by decide
  refine ty_put (D := D) (ci := 6) (v := .int 0) (ty := .int) (C := RX7) (T := TX7) (N := 4) (F2 := (rF cI cL cC gC 0 gT gR gm_12 gs_13 gg_14 gL gQ_15 gZ_16 gE gV gU gN)) hx hb hts in7 tyX7 tyX7_ok nmX7 hown hK hG hS at_25 (by rw [k_a0]; rfl) rfl 3 (by decide) (hts (.fieldLink RX7 22 "RiverModel$Text" "at" "I") (List.mem_of_getElem? (i := 5) rfl)) (fun _ h9 => h9) rfl (by decide +kernel) rfl rfl (Nat.le_of_ble_eq_true rfl) (by rw [k_a0]; exact ⟨r_21, r_23, rfl, h_22, h_24⟩) (fun hG b hb h0 => by obtain ⟨e, g1, g2⟩ := hG b h0; exact ⟨e, g1, rF_gP (fun h => hb (uq b a0 (h.trans k_a0.symm) h0)) g2⟩) dX7_readInto_6 (fun H locs hG hS at_26 o_27 => ?_)
  have at_26 : va_at D vwCl (a0, .inr (6, [.ref r_21, .ref r_23, .int gC, .int 0])) H := at_26
  refine lv_iconst (v := 0) hx hb dX7_readInto_9 (by decide) ?_
  refine lv_istore_n (lv' := [(2, .int 0), (0, .ref a0), (1, .ref a1)]) hx hb dX7_readInto_10 rfl hl (by decide) rfl (fun ls hl => ?_)
  refine lv_pc (pc2 := 11) rfl ?_
  refine lp_gen (fun WW28 hWW28 => ?_)
  have kx28 : ∀ (yk : Int32) (p1 : Int32) (r1 : Nat → Int32) (m1 : Int32) (s1 : Int32) (g1 : Int32) (l1 : Nat → Int32) (q1 : Nat → Int32) (z1 : Nat → Int32) (H1 : Heap) (locs1 : List Loc) (ls1 : Array Slot), (0 ≤ yk.toInt) → (yk.toInt ≤ 40) → (0 ≤ p1.toInt) → (rdS (byT gT gC) gC.toInt yk.toInt p1.toInt l1 q1 m1.toInt s1.toInt g1.toInt) → (p1.toInt ≤ 400) → (gC.toInt ≤ p1.toInt) → tG D (rF cI cL cC gC p1 gT r1 m1 s1 g1 l1 q1 z1 gE gV gU gN) t H1 → tF t vTM s.heap H1 locs1 → lv_has ls1 4 [(2, .int yk), (0, .ref a0), (1, .ref a1)] → WW28 H1 locs1 (F0 m 73 ls1 []) := by
    intro yk p1 r1 m1 s1 g1 l1 q1 z1 H locs ls v28_0 v28_1 v28_2 v28_3 v28_4 xf28_0 hG hS hl
    refine (hWW28 _ _ _).mpr ?_
    refine lv_pc (pc2 := 73) rfl ?_
    refine lv_bipush (v := (-4)) hx hb dX7_readInto_73 (by decide) ?_
    have zi_m4 : ((-4) : Int32).toInt = (-4) := by decide
    exact tx_iret (z := (p1, r1, m1, s1, g1, l1, q1, z1)) hx hb hr hlk hG hS ⟨(by show rdR (byT gT gC) gC.toInt ((-4) : Int32).toInt l1 q1 m1.toInt s1.toInt g1.toInt; rw [zi_m4]; exact rdR.none v28_3 (by omega) (by omega)), (by show 0 ≤ p1.toInt; omega), (by show p1.toInt ≤ 400; omega), (by show 0 ≤ g1.toInt; obtain ⟨_, _, _, _, h0, h4, _⟩ := id v28_3; omega), (by show g1.toInt ≤ 4; obtain ⟨_, _, _, _, h0, h4, _⟩ := id v28_3; omega)⟩ dX7_readInto_75
  have lp28 : ∀ (kk28 : Nat) (yk : Int32) (p1 : Int32) (r1 : Nat → Int32) (m1 : Int32) (s1 : Int32) (g1 : Int32) (l1 : Nat → Int32) (q1 : Nat → Int32) (z1 : Nat → Int32) (H1 : Heap) (locs1 : List Loc) (ls1 : Array Slot), 41 - yk.toInt ≤ (kk28 : Int) → (0 ≤ yk.toInt) → (yk.toInt ≤ 40) → (0 ≤ p1.toInt) → (rdS (byT gT gC) gC.toInt yk.toInt p1.toInt l1 q1 m1.toInt s1.toInt g1.toInt) → (p1.toInt ≤ 400) → tG D (rF cI cL cC gC p1 gT r1 m1 s1 g1 l1 q1 z1 gE gV gU gN) t H1 → tF t vTM s.heap H1 locs1 → lv_has ls1 4 [(2, .int yk), (0, .ref a0), (1, .ref a1)] → WW28 H1 locs1 (F0 m 11 ls1 []) := by
    intro kk28
    induction kk28 with
    | zero =>
      intro yk p1 r1 m1 s1 g1 l1 q1 z1 H locs ls hk28 v28_0 v28_1 v28_2 v28_3 v28_4 hG hS hl
      refine (hWW28 _ _ _).mpr ?_
      refine lv_iload_n hx hb dX7_readInto_11 rfl (lv_at hl 0 rfl) ?_
      refine lv_bipush (v := 40) hx hb dX7_readInto_12 (by decide) ?_
      refine lv_icmp_gt (tgt := 73) hx hb dX7_readInto_14 (by decide) (fun c_29 => ?_) (fun c_29 => ?_)
      · skip
        have c_29 : 40 < yk.toInt := q_lt c_29
        exact (hWW28 _ _ _).mp (kx28 yk p1 r1 m1 s1 g1 l1 q1 z1 H locs ls v28_0 v28_1 v28_2 v28_3 v28_4 (by omega) hG hS (lv_sub hl [0, 1, 2] rfl))
      · skip
        have c_29 : yk.toInt ≤ 40 := q_nlt c_29
        refine lv_aload_n hx hb dX7_readInto_17 rfl (lv_at hl 1 rfl) ?_
        obtain ⟨r_30, r_32, at_34, h_31, h_33⟩ := rF_o2 hG k_a0
        refine va_get (D := D) (ci := 6) (v := .int p1) (C := RX7) (T := TX7) (N := 4) hx hb hts in7 hown hK (va_one at_34) 0 rfl rfl 3 (by decide) (hts (.fieldLink RX7 22 "RiverModel$Text" "at" "I") (List.mem_of_getElem? (i := 5) rfl)) (fun _ h9 => h9) rfl dX7_readInto_18 ?_
        refine lv_aload_n hx hb dX7_readInto_21 rfl (lv_at hl 1 rfl) ?_
        refine lv_pc (pc2 := 22) rfl ?_
        refine va_get (D := D) (ci := 6) (v := .int gC) (C := RX7) (T := TX7) (N := 4) hx hb hts in7 hown hK (va_one at_34) 0 rfl rfl 2 (by decide) (hts (.fieldLink RX7 18 "RiverModel$Text" "length" "I") (List.mem_of_getElem? (i := 6) rfl)) (fun _ h9 => h9) rfl dX7_readInto_22 ?_
        refine lv_icmp_ge (tgt := 73) hx hb dX7_readInto_25 (by decide) (fun c_35 => ?_) (fun c_35 => ?_)
        · skip
          have c_35 : gC.toInt ≤ p1.toInt := q_le c_35
          exact (hWW28 _ _ _).mp (kx28 yk p1 r1 m1 s1 g1 l1 q1 z1 H locs ls v28_0 v28_1 v28_2 v28_3 v28_4 (by omega) hG hS (lv_sub hl [0, 1, 2] rfl))
        · skip
          have c_35 : p1.toInt < gC.toInt := q_nle c_35
          exfalso; omega
    | succ kk28 ih28 =>
      intro yk p1 r1 m1 s1 g1 l1 q1 z1 H locs ls hk28 v28_0 v28_1 v28_2 v28_3 v28_4 hG hS hl
      refine (hWW28 _ _ _).mpr ?_
      refine lv_iload_n hx hb dX7_readInto_11 rfl (lv_at hl 0 rfl) ?_
      refine lv_bipush (v := 40) hx hb dX7_readInto_12 (by decide) ?_
      refine lv_icmp_gt (tgt := 73) hx hb dX7_readInto_14 (by decide) (fun c_36 => ?_) (fun c_36 => ?_)
      · skip
        have c_36 : 40 < yk.toInt := q_lt c_36
        exact (hWW28 _ _ _).mp (kx28 yk p1 r1 m1 s1 g1 l1 q1 z1 H locs ls v28_0 v28_1 v28_2 v28_3 v28_4 (by omega) hG hS (lv_sub hl [0, 1, 2] rfl))
      · skip
        have c_36 : yk.toInt ≤ 40 := q_nlt c_36
        refine lv_aload_n hx hb dX7_readInto_17 rfl (lv_at hl 1 rfl) ?_
        obtain ⟨r_37, r_39, at_41, h_38, h_40⟩ := rF_o2 hG k_a0
        refine va_get (D := D) (ci := 6) (v := .int p1) (C := RX7) (T := TX7) (N := 4) hx hb hts in7 hown hK (va_one at_41) 0 rfl rfl 3 (by decide) (hts (.fieldLink RX7 22 "RiverModel$Text" "at" "I") (List.mem_of_getElem? (i := 5) rfl)) (fun _ h9 => h9) rfl dX7_readInto_18 ?_
        refine lv_aload_n hx hb dX7_readInto_21 rfl (lv_at hl 1 rfl) ?_
        refine lv_pc (pc2 := 22) rfl ?_
        refine va_get (D := D) (ci := 6) (v := .int gC) (C := RX7) (T := TX7) (N := 4) hx hb hts in7 hown hK (va_one at_41) 0 rfl rfl 2 (by decide) (hts (.fieldLink RX7 18 "RiverModel$Text" "length" "I") (List.mem_of_getElem? (i := 6) rfl)) (fun _ h9 => h9) rfl dX7_readInto_22 ?_
        refine lv_icmp_ge (tgt := 73) hx hb dX7_readInto_25 (by decide) (fun c_42 => ?_) (fun c_42 => ?_)
        · skip
          have c_42 : gC.toInt ≤ p1.toInt := q_le c_42
          exact (hWW28 _ _ _).mp (kx28 yk p1 r1 m1 s1 g1 l1 q1 z1 H locs ls v28_0 v28_1 v28_2 v28_3 v28_4 (by omega) hG hS (lv_sub hl [0, 1, 2] rfl))
        · skip
          have c_42 : p1.toInt < gC.toInt := q_nle c_42
          obtain ⟨_, _, _, hmj, hgt0, hgt4, hst0, hst1, _, _, _⟩ := id v28_3
          refine lv_aload_n hx hb dX7_readInto_28 rfl (lv_at hl 1 rfl) ?_
          refine va_get (D := D) (ci := 6) (v := .int p1) (C := RX7) (T := TX7) (N := 4) hx hb hts in7 hown hK (va_one at_41) 0 rfl rfl 3 (by decide) (hts (.fieldLink RX7 22 "RiverModel$Text" "at" "I") (List.mem_of_getElem? (i := 5) rfl)) (fun _ h9 => h9) rfl dX7_readInto_29 ?_
          refine lv_istore_n (lv' := [(3, .int p1), (2, .int yk), (0, .ref a0), (1, .ref a1)]) hx hb dX7_readInto_32 rfl hl (by decide) rfl (fun ls hl => ?_)
          refine lv_iload_n hx hb dX7_readInto_33 rfl (lv_at hl 1 rfl) ?_
          refine lv_bipush (v := 40) hx hb dX7_readInto_34 (by decide) ?_
          refine lv_icmp_eq (tgt := 57) hx hb dX7_readInto_36 (by decide) (fun c_43 => ?_) (fun c_43 => ?_)
          · skip
            have c_43 : yk.toInt = 40 := q_eq c_43
            refine lv_pc (pc2 := 57) rfl ?_
            refine lv_iload_n hx hb dX7_readInto_57 rfl (lv_at hl 0 rfl) ?_
            exact tx_iret (z := (p1, r1, m1, s1, g1, l1, q1, z1)) hx hb hr hlk hG hS ⟨(by show rdR (byT gT gC) gC.toInt p1.toInt l1 q1 m1.toInt s1.toInt g1.toInt; exact rdR.full v28_3 (by omega) (by omega)), (by show 0 ≤ p1.toInt; omega), (by show p1.toInt ≤ 400; omega), (by show 0 ≤ g1.toInt; obtain ⟨_, _, _, _, h0, h4, _⟩ := id v28_3; omega), (by show g1.toInt ≤ 4; obtain ⟨_, _, _, _, h0, h4, _⟩ := id v28_3; omega)⟩ dX7_readInto_58
          · skip
            have c_43 : yk.toInt ≠ 40 := q_ne c_43
            refine lv_aload_n hx hb dX7_readInto_39 rfl (lv_at hl 2 rfl) ?_
            refine tx_calli (W.runV (As := []) (rest := []) ⟨hx, hb, hml, hown, hts⟩ (v_X7_readItem l D t cI cL cC gC p1 gT r1 m1 s1 g1 l1 q1 z1 gE gV gU gN a0 p1.toInt uq (by omega) (by omega) hT (by omega) (by omega) (by omega) k_a0) (cwV 0 hts gu_vX7_readInto_vX7_readItem_30 rfl rfl rfl (by decide +kernel) ⟨Nat.le_of_ble_eq_true rfl, Nat.le_of_ble_eq_true rfl⟩) (tP_V hG hE at_41 rfl) rfl rfl hl.1 rfl (lv_room (Nat.le_of_ble_eq_true rfl)) dX7_readInto_40 ⟨Nat.le_of_ble_eq_true rfl, Nat.le_of_ble_eq_true rfl⟩) hS (wrL_sub (by decide)) (fun r_44 zz_47 H locs hp_45 hG hS o_46 => ?_)
            obtain ⟨gP_48, gR_49⟩ := zz_47
            replace hG : tG D (rF cI cL cC gC gP_48 gT gR_49 m1 s1 g1 l1 q1 z1 gE gV gU gN) t H := hG
            have hp_45 : (r_44 = 1 ∧ itemAt (byT gT gC) p1.toInt (gR_49 0) (gR_49 1) (gR_49 2) (gR_49 3) (gR_49 4) (gR_49 5) gP_48.toInt ∧ 0 ≤ gP_48.toInt ∧ gP_48.toInt ≤ 400) ∨ (r_44 = 0 ∧ noItem (byT gT gC) p1.toInt ∧ 0 ≤ gP_48.toInt ∧ gP_48.toInt ≤ 400) := hp_45
            rcases hp_45 with ⟨rfl, p_50, p_51, p_52⟩ | ⟨rfl, p_53, p_54, p_55⟩
            · skip
              have hgt := itemAt.gt p_50
              refine lv_if_eq (tgt := 57) hx hb dX7_readInto_43 (by decide) (fun q => absurd q (by decide)) (fun _ => ?_)
              refine lv_aload_n hx hb dX7_readInto_46 rfl (lv_at hl 3 rfl) ?_
              refine lv_aload_n hx hb dX7_readInto_47 rfl (lv_at hl 2 rfl) ?_
              obtain ⟨r_56, r_58, at_60, h_57, h_59⟩ := rF_o2 hG k_a0
              refine va_get (D := D) (ci := 6) (v := .ref r_58) (C := RX7) (T := TX7) (N := 4) hx hb hts in7 hown hK (va_one at_60) 0 rfl rfl 1 (by decide) (hts (.fieldLink RX7 15 "RiverModel$Text" "row" "[I") (List.mem_of_getElem? (i := 11) rfl)) (fun _ h9 => h9) rfl dX7_readInto_48 ?_
              refine lv_pc (pc2 := 51) rfl ?_
              obtain ⟨r_61, r_63, r_65, at_67, h_62, h_64, h_66⟩ := rF_o3 hG k_a1
              refine ty_calli (W.runV (As := [.ref r_58]) (rest := []) ⟨hx, hb, hml, hown, hts⟩ (v_X4_mayFollow l D t cI cL cC gC gP_48 gT gR_49 m1 s1 g1 l1 q1 z1 gE gV gU gN a1 r_58  uq  k_a1 h_59) (cwV 1 hts gu_vX7_readInto_vX4_mayFollow_34 rfl rfl rfl (by decide +kernel) ⟨Nat.le_of_ble_eq_true rfl, Nat.le_of_ble_eq_true rfl⟩) (tP_V hG hE at_67 rfl) rfl rfl hl.1 rfl (lv_room (Nat.le_of_ble_eq_true rfl)) dX7_readInto_51 ⟨Nat.le_of_ble_eq_true rfl, Nat.le_of_ble_eq_true rfl⟩) hS (fun k h => by simp [wr0] at h) (fun r_68 H locs hp_69 hG hS o_70 => ?_)
              have at_60 := va_at.keptC at_60 o_70 k_a0 rfl
              have at_67 := va_at.keptC at_67 o_70 k_a1 rfl
              have hp_69 : (r_68 = 1 ∧ mayF q1 gR_49 m1.toInt g1.toInt) ∨ (r_68 = 0 ∧ ¬ mayF q1 gR_49 m1.toInt g1.toInt) := hp_69
              rcases hp_69 with ⟨rfl, p_72⟩ | ⟨rfl, p_73⟩
              · skip
                refine lv_if_ne (tgt := 59) hx hb dX7_readInto_54 (by decide) (fun _ => ?_) (fun q => absurd q (by decide))
                refine lv_aload_n hx hb dX7_readInto_59 rfl (lv_at hl 3 rfl) ?_
                refine lv_aload_n hx hb dX7_readInto_60 rfl (lv_at hl 2 rfl) ?_
                refine va_get (D := D) (ci := 6) (v := .ref r_58) (C := RX7) (T := TX7) (N := 4) hx hb hts in7 hown hK (va_one at_60) 0 rfl rfl 1 (by decide) (hts (.fieldLink RX7 15 "RiverModel$Text" "row" "[I") (List.mem_of_getElem? (i := 11) rfl)) (fun _ h9 => h9) rfl dX7_readInto_61 ?_
                refine tx_callv (W.runV (As := [.ref r_58]) (rest := []) ⟨hx, hb, hml, hown, hts⟩ (v_X4_add l D t cI cL cC gC gP_48 gT gR_49 m1 s1 g1 l1 q1 z1 gE gV gU gN a1 r_58  uq (by omega) (by omega) (by omega) (by omega) (by omega) (by omega) (fun _ => ⟨p_50.nm.1, p_50.nm.2.1⟩) (fun q => (p_72.2.2 (by omega)).2 q) k_a1 h_59) (cwV 1 hts gu_vX7_readInto_vX4_add_38 rfl rfl rfl (by decide +kernel) ⟨Nat.le_of_ble_eq_true rfl, Nat.le_of_ble_eq_true rfl⟩) (tP_V hG hE at_67 rfl) rfl rfl hl.1 rfl (lv_room (Nat.le_of_ble_eq_true rfl)) dX7_readInto_64 ⟨Nat.le_of_ble_eq_true rfl, Nat.le_of_ble_eq_true rfl⟩) hS (wrL_sub (by decide)) (fun zz_77 H locs hp_75 hG hS o_76 => ?_)
                obtain ⟨gm_78, gs_79, gg_80, gL_81, gQ_82, gZ_83⟩ := zz_77
                have at_60 := va_at.keptC at_60 o_76 k_a0 rfl
                replace hG : tG D (rF cI cL cC gC gP_48 gT gR_49 gm_78 gs_79 gg_80 gL_81 gQ_82 gZ_83 gE gV gU gN) t H := hG
                have hp_75 : gm_78.toInt = m1.toInt + 1 ∧ gs_79.toInt = nextC s1.toInt (gR_49 0) ∧ gg_80.toInt = nextG g1.toInt (gR_49 0) ∧ cpf l1 gL_81 (6 * m1.toInt) gR_49 6 ∧ gQ_82 = nxQ q1 (gR_49 0) (gR_49 1) m1 := hp_75
                obtain ⟨p_84, p_85, p_86, p_87, p_88⟩ := hp_75
                obtain ⟨x_89, e_90⟩ : ∃ y : Int32, y = yk + Int32.ofInt 1 := ⟨_, rfl⟩
                have i_x_89 : x_89.toInt = yk.toInt + 1 := by rw [e_90, show Int32.ofInt 1 = 1 by decide]; exact (q_add (by rw [show (1 : Int32).toInt = 1 by decide]; omega) (by rw [show (1 : Int32).toInt = 1 by decide]; omega)).trans (by rw [show (1 : Int32).toInt = 1 by decide])
                refine lv_iinc (v := x_89) (lv' := [(2, .int x_89), (3, .int p1), (0, .ref a0), (1, .ref a1)]) hx hb dX7_readInto_67 hl (k := 1) rfl e_90.symm (by decide) rfl (fun ls hl => ?_)
                refine lv_goto (tgt := 11) hx hb dX7_readInto_70 (by decide) ?_
                exact (hWW28 _ _ _).mp (ih28 x_89 gP_48 gR_49 gm_78 gs_79 gg_80 gL_81 gQ_82 gZ_83 H locs ls (by omega) (by omega) (by omega) (by omega) (rdS.step v28_3 (by omega) p_50 p_72 rfl p_84 p_85 p_86 p_87 p_88 (by omega)) (by omega) hG hS (lv_sub hl [0, 2, 3] rfl))
              · skip
                refine lv_pc (pc2 := 54) rfl ?_
                refine lv_if_ne (tgt := 59) hx hb dX7_readInto_54 (by decide) (fun q => absurd rfl q) (fun _ => ?_)
                refine lv_iload_n hx hb dX7_readInto_57 rfl (lv_at hl 0 rfl) ?_
                exact tx_iret (z := (gP_48, gR_49, m1, s1, g1, l1, q1, z1)) hx hb hr hlk hG hS ⟨(by show rdR (byT gT gC) gC.toInt p1.toInt l1 q1 m1.toInt s1.toInt g1.toInt; exact rdR.nof v28_3 (by omega) (by omega) p_50 p_73), (by show 0 ≤ gP_48.toInt; omega), (by show gP_48.toInt ≤ 400; omega), (by show 0 ≤ g1.toInt; obtain ⟨_, _, _, _, h0, h4, _⟩ := id v28_3; omega), (by show g1.toInt ≤ 4; obtain ⟨_, _, _, _, h0, h4, _⟩ := id v28_3; omega)⟩ dX7_readInto_58
            · skip
              refine lv_if_eq (tgt := 57) hx hb dX7_readInto_43 (by decide) (fun _ => ?_) (fun q => absurd (by decide) q)
              refine lv_iload_n hx hb dX7_readInto_57 rfl (lv_at hl 0 rfl) ?_
              exact tx_iret (z := (gP_48, gR_49, m1, s1, g1, l1, q1, z1)) hx hb hr hlk hG hS ⟨(by show rdR (byT gT gC) gC.toInt p1.toInt l1 q1 m1.toInt s1.toInt g1.toInt; exact rdR.noit v28_3 (by omega) (by omega) p_53), (by show 0 ≤ gP_48.toInt; omega), (by show gP_48.toInt ≤ 400; omega), (by show 0 ≤ g1.toInt; obtain ⟨_, _, _, _, h0, h4, _⟩ := id v28_3; omega), (by show g1.toInt ≤ 4; obtain ⟨_, _, _, _, h0, h4, _⟩ := id v28_3; omega)⟩ dX7_readInto_58
  exact lp28 (41 - (0 : Int32).toInt : Int).toNat 0 0 gR gm_12 gs_13 gg_14 gL gQ_15 gZ_16 H locs ls (by omega) (by omega) (by omega) (by omega) (by rw [show (0 : Int32).toInt = 0 by decide, show gm_12.toInt = 0 by omega, show gs_13.toInt = 0 by omega, show gg_14.toInt = 0 by omega]; exact rdS.zero p_20) (by omega) hG hS (lv_sub hl [0, 1, 2] rfl)

def uvX7_append : List Cond := .code yX7_append cX7_append 5 none :: ([.fieldLink RX7 18 "RiverModel$Text" "length" "I", .fieldLink RX7 9 "RiverModel$Text" "bytes" "[I"] ++ wsX70)
set_option maxHeartbeats 4000000 in
set_option maxRecDepth 100000 in
theorem v_X7_append (l : Launch) (D : va_G) (t : Nat → Nat) (cI cL cC : ClassId) (gC : Int32) (gP : Int32) (gT : Nat → Int32) (gR : Nat → Int32) (gm : Int32) (gs : Int32) (gg : Int32) (gL : Nat → Int32) (gQ : Nat → Int32) (gZ : Nat → Int32) (gE : Int32) (gV : Nat → Int32) (gU : Nat → Int32) (gN : Nat → Int32) (a0 : Nat) (a1 : Int32) (a2 : Int64) (uq : ∀ b c : Nat, t b = t c → t b ≠ 0 → b = c) (hC0 : 0 ≤ gC.toInt) (hC4 : gC.toInt ≤ 400) (h1 : 1 ≤ a1.toInt) (h8 : a1.toInt ≤ 8) (hf : gC.toInt + a1.toInt ≤ 400) (k_a0 : t a0 = 2) : tMx (Z := (Int32) × (Nat → Int32)) l yX7_append uvX7_append 0 0 D (rF cI cL cC gC gP gT gR gm gs gg gL gQ gZ gE gV gU gN) (fun z => (rF cI cL cC z.1 gP z.2 gR gm gs gg gL gQ gZ gE gV gU gN)) t cI cL cC [.ref a0, .int a1, .long a2] vTB (xV (fun (z : (Int32) × (Nat → Int32)) => z.1.toInt = gC.toInt + a1.toInt ∧ z.2 = wriB a2 a1.toInt.toNat gT gC.toInt.toNat)) := by
  refine tMx.ofW (cc := cX7_append) (maxL := 5) (ret := none) (by decide) rfl (Nat.le_of_ble_eq_true rfl) ?_
  intro p e s m below meth c hx hb hr hml hown hts hlk H locs hG hK hE hS ls hl
  have hl : lv_has ls 5 [(0, .ref a0), (1, .int a1), (2, .long a2)] := hl
  have in7 : ∀ w ∈ wsX70, w ∈ uvX7_append := fun w h => List.mem_cons_of_mem _ (List.mem_append_right _ h)
  refine lv_iload_n hx hb dX7_append_0 rfl (lv_at hl 1 rfl) ?_
  refine lv_iconst (v := 1) hx hb dX7_append_1 (by decide) ?_
  refine lv_isub hx hb dX7_append_2 ?_
  refine lv_topi (fun x_1 e_2 => ?_)
  have i_x_1 : x_1.toInt = a1.toInt - 1 := by rw [e_2]; exact (q_sub (by rw [show (1 : Int32).toInt = 1 by decide]; omega) (by rw [show (1 : Int32).toInt = 1 by decide]; omega)).trans (by rw [show (1 : Int32).toInt = 1 by decide])
  refine lv_istore (lv' := [(4, .int x_1), (0, .ref a0), (1, .int a1), (2, .long a2)]) hx hb dX7_append_3 hl (by decide) rfl (fun ls hl => ?_)
  refine lv_pc (pc2 := 5) rfl ?_
  refine lp_gen (fun WW3 hWW3 => ?_)
  have kx3 : ∀ (yk : Int32) (c1 : Int32) (t1 : Nat → Int32) (H1 : Heap) (locs1 : List Loc) (ls1 : Array Slot), (-1 ≤ yk.toInt) → (yk.toInt < a1.toInt) → (c1.toInt = gC.toInt + a1.toInt - 1 - yk.toInt) → (wriB a2 (yk.toInt + 1).toNat t1 c1.toInt.toNat = wriB a2 a1.toInt.toNat gT gC.toInt.toNat) → (yk.toInt < 0) → tG D (rF cI cL cC c1 gP t1 gR gm gs gg gL gQ gZ gE gV gU gN) t H1 → tF t vTB s.heap H1 locs1 → lv_has ls1 5 [(4, .int yk), (0, .ref a0), (1, .int a1), (2, .long a2)] → WW3 H1 locs1 (F0 m 57 ls1 []) := by
    intro yk c1 t1 H locs ls v3_0 v3_1 v3_2 v3_3 xf3_0 hG hS hl
    refine (hWW3 _ _ _).mpr ?_
    exact tx_vret (z := (c1, t1)) hx hb hr hlk hG hS ⟨(by show c1.toInt = gC.toInt + a1.toInt; omega), (by show t1 = wriB a2 a1.toInt.toNat gT gC.toInt.toNat; exact wriB.done v3_3 (by omega))⟩ dX7_append_57
  have lp3 : ∀ (kk3 : Nat) (yk : Int32) (c1 : Int32) (t1 : Nat → Int32) (H1 : Heap) (locs1 : List Loc) (ls1 : Array Slot), yk.toInt + 1 ≤ (kk3 : Int) → (-1 ≤ yk.toInt) → (yk.toInt < a1.toInt) → (c1.toInt = gC.toInt + a1.toInt - 1 - yk.toInt) → (wriB a2 (yk.toInt + 1).toNat t1 c1.toInt.toNat = wriB a2 a1.toInt.toNat gT gC.toInt.toNat) → tG D (rF cI cL cC c1 gP t1 gR gm gs gg gL gQ gZ gE gV gU gN) t H1 → tF t vTB s.heap H1 locs1 → lv_has ls1 5 [(4, .int yk), (0, .ref a0), (1, .int a1), (2, .long a2)] → WW3 H1 locs1 (F0 m 5 ls1 []) := by
    intro kk3
    induction kk3 with
    | zero =>
      intro yk c1 t1 H locs ls hk3 v3_0 v3_1 v3_2 v3_3 hG hS hl
      refine (hWW3 _ _ _).mpr ?_
      refine lv_iload hx hb dX7_append_5 (lv_at hl 0 rfl) ?_
      refine lv_if_lt (tgt := 57) hx hb dX7_append_7 (by decide) (fun c_4 => ?_) (fun c_4 => ?_)
      · skip
        have c_4 : yk.toInt < 0 := q_lt c_4
        exact (hWW3 _ _ _).mp (kx3 yk c1 t1 H locs ls v3_0 v3_1 v3_2 v3_3 (by omega) hG hS (lv_sub hl [0, 1, 2, 3] rfl))
      · skip
        have c_4 : 0 ≤ yk.toInt := q_nlt c_4
        exfalso; omega
    | succ kk3 ih3 =>
      intro yk c1 t1 H locs ls hk3 v3_0 v3_1 v3_2 v3_3 hG hS hl
      refine (hWW3 _ _ _).mpr ?_
      refine lv_pc (pc2 := 5) rfl ?_
      refine lv_iload hx hb dX7_append_5 (lv_at hl 0 rfl) ?_
      refine lv_if_lt (tgt := 57) hx hb dX7_append_7 (by decide) (fun c_5 => ?_) (fun c_5 => ?_)
      · skip
        have c_5 : yk.toInt < 0 := q_lt c_5
        exact (hWW3 _ _ _).mp (kx3 yk c1 t1 H locs ls v3_0 v3_1 v3_2 v3_3 (by omega) hG hS (lv_sub hl [0, 1, 2, 3] rfl))
      · skip
        have c_5 : 0 ≤ yk.toInt := q_nlt c_5
        refine lv_aload_n hx hb dX7_append_10 rfl (lv_at hl 1 rfl) ?_
        obtain ⟨r_6, r_8, at_10, h_7, h_9⟩ := rF_o2 hG k_a0
        refine va_get (D := D) (ci := 6) (v := .int c1) (C := RX7) (T := TX7) (N := 4) hx hb hts in7 hown hK (va_one at_10) 0 rfl rfl 2 (by decide) (hts (.fieldLink RX7 18 "RiverModel$Text" "length" "I") (List.mem_of_getElem? (i := 1) rfl)) (fun _ h9 => h9) rfl dX7_append_11 ?_
        refine lv_sipush (v := 400) hx hb dX7_append_14 (by decide) ?_
        refine lv_icmp_ge (tgt := 57) hx hb dX7_append_17 (by decide) (fun c_11 => ?_) (fun c_11 => ?_)
        · skip
          have c_11 : 400 ≤ c1.toInt := q_le c_11
          exact (hWW3 _ _ _).mp (kx3 yk c1 t1 H locs ls v3_0 v3_1 v3_2 v3_3 (by omega) hG hS (lv_sub hl [0, 1, 2, 3] rfl))
        · skip
          have c_11 : c1.toInt < 400 := q_nle c_11
          refine lv_aload_n hx hb dX7_append_20 rfl (lv_at hl 1 rfl) ?_
          refine va_get (D := D) (ci := 6) (v := .ref r_6) (C := RX7) (T := TX7) (N := 4) hx hb hts in7 hown hK (va_one at_10) 0 rfl rfl 0 (by decide) (hts (.fieldLink RX7 9 "RiverModel$Text" "bytes" "[I") (List.mem_of_getElem? (i := 2) rfl)) (fun _ h9 => h9) rfl dX7_append_21 ?_
          refine lv_pc (pc2 := 24) rfl ?_
          refine lv_aload_n hx hb dX7_append_24 rfl (lv_at hl 1 rfl) ?_
          refine va_get (D := D) (ci := 6) (v := .int c1) (C := RX7) (T := TX7) (N := 4) hx hb hts in7 hown hK (va_one at_10) 0 rfl rfl 2 (by decide) (hts (.fieldLink RX7 18 "RiverModel$Text" "length" "I") (List.mem_of_getElem? (i := 1) rfl)) (fun _ h9 => h9) rfl dX7_append_25 ?_
          refine lv_lload_n hx hb dX7_append_28 rfl (lv_at hl 3 rfl) ?_
          refine lv_bipush (v := 8) hx hb dX7_append_29 (by decide) ?_
          refine lv_iload hx hb dX7_append_31 (lv_at hl 0 rfl) ?_
          refine lv_imul hx hb dX7_append_33 ?_
          refine lv_topi (fun x_12 e_13 => ?_)
          have i_x_12 : x_12.toInt = 8 * yk.toInt := by rw [e_13]; exact (q_mul (by rw [show (8 : Int32).toInt = 8 by decide]; omega) (by rw [show (8 : Int32).toInt = 8 by decide]; omega)).trans (by rw [show (8 : Int32).toInt = 8 by decide])
          refine lv_lushr hx hb dX7_append_34 rfl ?_
          refine lv_topl (fun z_14 e_15 => ?_)
          refine lv_l2i (v := z_14.toInt32) hx hb dX7_append_35 rfl ?_
          refine lv_topi (fun x_16 e_17 => ?_)
          refine lv_pc (pc2 := 36) rfl ?_
          refine lv_sipush (v := 255) hx hb dX7_append_36 (by decide) ?_
          refine lv_iand hx hb dX7_append_39 ?_
          refine lv_topi (fun x_18 e_19 => ?_)
          have at_20 := rF_o10 hG h_7
          have b_21 : vp_in c1 400 := (q_in (by omega) (by omega))
          obtain ⟨q_22, eq_22⟩ : ∃ q : Nat → Int32, q = upd t1 c1.toNatClampNeg x_18 := ⟨_, rfl⟩
          refine ty_iast (F2 := (rF cI cL cC c1 gP q_22 gR gm gs gg gL gQ gZ gE gV gU gN)) hx hb hK hG hS 0 at_20 (by rw [h_7]; rfl) rfl b_21 (by rw [h_7]; show _ = _; rw [eq_22]) (fun hG b hb h0 => by obtain ⟨e, g1, g2⟩ := hG b h0; exact ⟨e, g1, rF_gT (fun h => hb (uq b r_6 (h.trans h_7.symm) h0)) g2⟩) dX7_append_40 (fun H locs hG hS at_23 o_24 => ?_)
          have at_10 := va_at.keptK at_10 o_24 h_7 k_a0 rfl
          refine lv_aload_n hx hb dX7_append_41 rfl (lv_at hl 1 rfl) ?_
          refine lv_dup hx hb dX7_append_42 rfl ?_
          refine va_get (D := D) (ci := 6) (v := .int c1) (C := RX7) (T := TX7) (N := 4) hx hb hts in7 hown hK (va_one at_10) 0 rfl rfl 2 (by decide) (hts (.fieldLink RX7 18 "RiverModel$Text" "length" "I") (List.mem_of_getElem? (i := 1) rfl)) (fun _ h9 => h9) rfl dX7_append_43 ?_
          refine lv_iconst (v := 1) hx hb dX7_append_46 (by decide) ?_
          refine lv_iadd hx hb dX7_append_47 ?_
          refine lv_topi (fun x_25 e_26 => ?_)
          have i_x_25 : x_25.toInt = c1.toInt + 1 := by rw [e_26]; exact (q_add (by rw [show (1 : Int32).toInt = 1 by decide]; omega) (by rw [show (1 : Int32).toInt = 1 by decide]; omega)).trans (by rw [show (1 : Int32).toInt = 1 by decide])
          refine lv_pc (pc2 := 48) rfl ?_
          refine ty_put (D := D) (ci := 6) (v := .int x_25) (ty := .int) (C := RX7) (T := TX7) (N := 4) (F2 := (rF cI cL cC x_25 gP q_22 gR gm gs gg gL gQ gZ gE gV gU gN)) hx hb hts in7 tyX7 tyX7_ok nmX7 hown hK hG hS at_10 (by rw [k_a0]; rfl) rfl 2 (by decide) (hts (.fieldLink RX7 18 "RiverModel$Text" "length" "I") (List.mem_of_getElem? (i := 1) rfl)) (fun _ h9 => h9) rfl (by decide +kernel) rfl rfl (Nat.le_of_ble_eq_true rfl) (by rw [k_a0]; exact ⟨r_6, r_8, rfl, h_7, h_9⟩) (fun hG b hb h0 => by obtain ⟨e, g1, g2⟩ := hG b h0; exact ⟨e, g1, rF_gC (fun h => hb (uq b a0 (h.trans k_a0.symm) h0)) g2⟩) dX7_append_48 (fun H locs hG hS at_27 o_28 => ?_)
          have at_27 : va_at D vwCl (a0, .inr (6, [.ref r_6, .ref r_8, .int x_25, .int gP])) H := at_27
          obtain ⟨x_29, e_30⟩ : ∃ y : Int32, y = yk + Int32.ofInt (-1) := ⟨_, rfl⟩
          have i_x_29 : x_29.toInt = yk.toInt + (-1) := by rw [e_30, show Int32.ofInt (-1) = (-1) by decide]; exact (q_add (by rw [show ((-1) : Int32).toInt = (-1) by decide]; omega) (by rw [show ((-1) : Int32).toInt = (-1) by decide]; omega)).trans (by rw [show ((-1) : Int32).toInt = (-1) by decide])
          refine lv_iinc (v := x_29) (lv' := [(4, .int x_29), (0, .ref a0), (1, .int a1), (2, .long a2)]) hx hb dX7_append_51 hl (k := 0) rfl e_30.symm (by decide) rfl (fun ls hl => ?_)
          refine lv_goto (tgt := 5) hx hb dX7_append_54 (by decide) ?_
          exact (hWW3 _ _ _).mp (ih3 x_29 x_25 q_22 H locs ls (by omega) (by omega) (by omega) (by omega) (wriB.step v3_3 (by omega) eq_22 (by rw [e_19, e_17, e_15]; exact byV_cls (by omega) (by omega)) (by omega) (by omega) (by omega)) hG hS (lv_sub hl [0, 1, 2, 3] rfl))
  exact lp3 (x_1.toInt + 1 : Int).toNat x_1 gC gT H locs ls (by omega) (by omega) (by omega) (by omega) (by rw [show (x_1.toInt + 1).toNat = a1.toInt.toNat by omega]) hG hS (lv_sub hl [0, 1, 2, 3] rfl)

def uvX1_unsetAll : List Cond := .code yX1_unsetAll cX1_unsetAll 1 none :: ([.fieldLink RX1 9 "RiverModel$Gauges" "whats" "[I", .methodLink RX1 25 yJ7_fill_53178, .static yJ7_fill_53178, .initialized RJ7, .fieldLink RX1 18 "RiverModel$Gauges" "seen" "[I", .code yJ7_fill_53178 cJ7_fill_53178 4 none] ++ wsX10)
set_option maxRecDepth 20000 in
theorem gu_vX1_unsetAll_J7_fill_53178_25 : GoodIn uvX1_unsetAll (va_wsS RX1 25 yJ7_fill_53178 wsJ7_fill_53178) := goodIn_r _ [2, 3, 4, 6] rfl (by decide +kernel)
set_option maxHeartbeats 4000000 in
set_option maxRecDepth 100000 in
theorem v_X1_unsetAll (l : Launch) (D : va_G) (t : Nat → Nat) (cI cL cC : ClassId) (gC : Int32) (gP : Int32) (gT : Nat → Int32) (gR : Nat → Int32) (gm : Int32) (gs : Int32) (gg : Int32) (gL : Nat → Int32) (gQ : Nat → Int32) (gZ : Nat → Int32) (gE : Int32) (gV : Nat → Int32) (gU : Nat → Int32) (gN : Nat → Int32) (a0 : Nat) (uq : ∀ b c : Nat, t b = t c → t b ≠ 0 → b = c) (k_a0 : t a0 = 6) : tMx (Z := (Nat → Int32) × (Nat → Int32)) l yX1_unsetAll uvX1_unsetAll 1 23 D (rF cI cL cC gC gP gT gR gm gs gg gL gQ gZ gE gV gU gN) (fun z => (rF cI cL cC gC gP gT gR gm gs gg gL gQ gZ gE z.1 gU z.2)) t cI cL cC [.ref a0] vG (xV (fun (z : (Nat → Int32) × (Nat → Int32)) => (∀ j : Nat, j < 4 → z.1 j = -4) ∧ (∀ j : Nat, j < 384 → z.2 j = -1))) := by
  refine tMx.ofW (cc := cX1_unsetAll) (maxL := 1) (ret := none) (by decide) rfl (Nat.le_of_ble_eq_true rfl) ?_
  intro p e s m below meth c hx hb hr hml hown hts hlk H locs hG hK hE hS ls hl
  have hl : lv_has ls 1 [(0, .ref a0)] := hl
  have in1 : ∀ w ∈ wsX10, w ∈ uvX1_unsetAll := fun w h => List.mem_cons_of_mem _ (List.mem_append_right _ h)
  refine lv_aload_n hx hb dX1_unsetAll_0 rfl (lv_at hl 0 rfl) ?_
  obtain ⟨r_1, r_3, r_5, at_7, h_2, h_4, h_6⟩ := rF_o6 hG k_a0
  refine va_get (D := D) (ci := 1) (v := .ref r_1) (C := RX1) (T := TX1) (N := 4) hx hb hts in1 hown hK (va_one at_7) 0 rfl rfl 0 (by decide) (hts (.fieldLink RX1 9 "RiverModel$Gauges" "whats" "[I") (List.mem_of_getElem? (i := 1) rfl)) (fun _ h9 => h9) rfl dX1_unsetAll_1 ?_
  refine lv_bipush (v := (-4)) hx hb dX1_unsetAll_4 (by decide) ?_
  have at_8 := rF_o21 hG h_2
  refine nw_row (W.runS (As := [.ref r_1, .int (-4)]) (rest := []) ⟨hx, hb, hml, hown, hts⟩ (c_fillI l D cI cL cC r_1 4 gV (-4) (by decide)) (va_cwS 2 hts gu_vX1_unsetAll_J7_fill_53178_25 rfl rfl rfl (by decide +kernel) ⟨Nat.le_of_ble_eq_true rfl, Nat.le_of_ble_eq_true rfl⟩) (rP_S at_8 hE) rfl rfl hl.1 rfl (lv_room (Nat.le_of_ble_eq_true rfl)) dX1_unsetAll_6 ⟨Nat.le_of_ble_eq_true rfl, Nat.le_of_ble_eq_true rfl⟩) (fun H L ee hp at_14 hz_12 o_10 hL_13 => ?_)
  obtain ⟨g_9, rfl, hg_11⟩ := hp
  replace hG : tG D (rF cI cL cC gC gP gT gR gm gs gg gL gQ gZ gE g_9 gU gN) t H := tG.setx hG at_14 (by rw [h_2]; exact rfl) (fun hG b hb h0 => by obtain ⟨e, g1, g2⟩ := hG b h0; exact ⟨e, g1, rF_gV (fun h => hb (uq b r_1 (h.trans h_2.symm) h0)) g2⟩) o_10
  replace hS := tF.row hS hz_12 o_10 hL_13 (by rw [h_2]; rfl)
  generalize _ ++ L = locs at hS ⊢
  have at_7 := va_at.keptK at_7 o_10 h_2 k_a0 rfl
  refine lv_aload_n hx hb dX1_unsetAll_9 rfl (lv_at hl 0 rfl) ?_
  refine va_get (D := D) (ci := 1) (v := .ref r_5) (C := RX1) (T := TX1) (N := 4) hx hb hts in1 hown hK (va_one at_7) 0 rfl rfl 2 (by decide) (hts (.fieldLink RX1 18 "RiverModel$Gauges" "seen" "[I") (List.mem_of_getElem? (i := 5) rfl)) (fun _ h9 => h9) rfl dX1_unsetAll_10 ?_
  refine lv_iconst (v := (-1)) hx hb dX1_unsetAll_13 (by decide) ?_
  refine lv_pc (pc2 := 14) rfl ?_
  have at_15 := rF_o23 hG h_6
  refine nw_row (W.runS (As := [.ref r_5, .int (-1)]) (rest := []) ⟨hx, hb, hml, hown, hts⟩ (c_fillI l D cI cL cC r_5 384 gN (-1) (by decide)) (va_cwS 2 hts gu_vX1_unsetAll_J7_fill_53178_25 rfl rfl rfl (by decide +kernel) ⟨Nat.le_of_ble_eq_true rfl, Nat.le_of_ble_eq_true rfl⟩) (rP_S at_15 hE) rfl rfl hl.1 rfl (lv_room (Nat.le_of_ble_eq_true rfl)) dX1_unsetAll_14 ⟨Nat.le_of_ble_eq_true rfl, Nat.le_of_ble_eq_true rfl⟩) (fun H L ee hp at_21 hz_19 o_17 hL_20 => ?_)
  obtain ⟨g_16, rfl, hg_18⟩ := hp
  replace hG : tG D (rF cI cL cC gC gP gT gR gm gs gg gL gQ gZ gE g_9 gU g_16) t H := tG.setx hG at_21 (by rw [h_6]; exact rfl) (fun hG b hb h0 => by obtain ⟨e, g1, g2⟩ := hG b h0; exact ⟨e, g1, rF_gN (fun h => hb (uq b r_5 (h.trans h_6.symm) h0)) g2⟩) o_17
  replace hS := tF.row hS hz_19 o_17 hL_20 (by rw [h_6]; rfl)
  generalize _ ++ L = locs at hS ⊢
  have at_7 := va_at.keptK at_7 o_17 h_6 k_a0 rfl
  exact tx_vret (z := (g_9, g_16)) hx hb hr hlk hG hS ⟨hg_11, hg_18⟩ dX1_unsetAll_17

def uvX1_isSet : List Cond := .code yX1_isSet cX1_isSet 2 (some .boolean) :: ([.fieldLink RX1 9 "RiverModel$Gauges" "whats" "[I"] ++ wsX10)
set_option maxHeartbeats 4000000 in
set_option maxRecDepth 100000 in
theorem v_X1_isSet (l : Launch) (D : va_G) (t : Nat → Nat) (cI cL cC : ClassId) (gC : Int32) (gP : Int32) (gT : Nat → Int32) (gR : Nat → Int32) (gm : Int32) (gs : Int32) (gg : Int32) (gL : Nat → Int32) (gQ : Nat → Int32) (gZ : Nat → Int32) (gE : Int32) (gV : Nat → Int32) (gU : Nat → Int32) (gN : Nat → Int32) (a0 : Nat) (a1 : Int32) (uq : ∀ b c : Nat, t b = t c → t b ≠ 0 → b = c) (k_a0 : t a0 = 6) : tM l yX1_isSet uvX1_isSet 0 0 D (rF cI cL cC gC gP gT gR gm gs gg gL gQ gZ gE gV gU gN) (rF cI cL cC gC gP gT gR gm gs gg gL gQ gZ gE gV gU gN) t cI cL cC [.ref a0, .int a1] wr0 (pI (fun r => (r = 1 ∧ gsQ gV a1.toInt) ∨ (r = 0 ∧ ¬ gsQ gV a1.toInt))) := by
  refine tM.ofW (cc := cX1_isSet) (maxL := 2) (ret := (some .boolean)) (by decide) rfl (Nat.le_of_ble_eq_true rfl) ?_
  intro p e s m below meth c hx hb hr hml hown hts hlk H locs hG hK hE hS ls hl
  have hl : lv_has ls 2 [(0, .ref a0), (1, .int a1)] := hl
  have in1 : ∀ w ∈ wsX10, w ∈ uvX1_isSet := fun w h => List.mem_cons_of_mem _ (List.mem_append_right _ h)
  refine lv_iload_n hx hb dX1_isSet_0 rfl (lv_at hl 1 rfl) ?_
  refine lv_if_lt (tgt := 24) hx hb dX1_isSet_1 (by decide) (fun c_1 => ?_) (fun c_1 => ?_)
  · skip
    have c_1 : a1.toInt < 0 := q_lt c_1
    refine lv_iconst (v := 0) hx hb dX1_isSet_24 (by decide) ?_
    have zi_0 : (0 : Int32).toInt = 0 := by decide
    exact ty_zret hx hb hr hlk rfl hG hS (Or.inr ⟨rfl, (by show ¬ gsQ gV a1.toInt; exact fun ⟨h1, h2, h3⟩ => by omega)⟩) dX1_isSet_25
  · skip
    have c_1 : 0 ≤ a1.toInt := q_nlt c_1
    refine lv_iload_n hx hb dX1_isSet_4 rfl (lv_at hl 1 rfl) ?_
    refine lv_iconst (v := 4) hx hb dX1_isSet_5 (by decide) ?_
    refine lv_icmp_ge (tgt := 24) hx hb dX1_isSet_6 (by decide) (fun c_2 => ?_) (fun c_2 => ?_)
    · skip
      have c_2 : 4 ≤ a1.toInt := q_le c_2
      refine lv_pc (pc2 := 24) rfl ?_
      refine lv_iconst (v := 0) hx hb dX1_isSet_24 (by decide) ?_
      have zi_0 : (0 : Int32).toInt = 0 := by decide
      exact ty_zret hx hb hr hlk rfl hG hS (Or.inr ⟨rfl, (by show ¬ gsQ gV a1.toInt; exact fun ⟨h1, h2, h3⟩ => by omega)⟩) dX1_isSet_25
    · skip
      have c_2 : a1.toInt < 4 := q_nle c_2
      refine lv_aload_n hx hb dX1_isSet_9 rfl (lv_at hl 0 rfl) ?_
      obtain ⟨r_3, r_5, r_7, at_9, h_4, h_6, h_8⟩ := rF_o6 hG k_a0
      refine va_get (D := D) (ci := 1) (v := .ref r_3) (C := RX1) (T := TX1) (N := 4) hx hb hts in1 hown hK (va_one at_9) 0 rfl rfl 0 (by decide) (hts (.fieldLink RX1 9 "RiverModel$Gauges" "whats" "[I") (List.mem_of_getElem? (i := 1) rfl)) (fun _ h9 => h9) rfl dX1_isSet_10 ?_
      refine lv_iload_n hx hb dX1_isSet_13 rfl (lv_at hl 1 rfl) ?_
      have at_10 := rF_o21 hG h_4
      have b_11 : vp_in a1 4 := (q_in (by omega) (by omega))
      refine va_iald hx hb hK (va_one at_10) 0 0 rfl rfl b_11 dX1_isSet_14 ?_
      refine lv_topi (fun x_12 e_13 => ?_)
      have w_x_12 : x_12 = gV (a1.toInt).toNat := by rw [e_13]; exact congrArg (fun q : Int => gV q.toNat) (show a1.toInt = a1.toInt by omega)
      have i_x_12 : x_12.toInt = (gV (a1.toInt).toNat).toInt := by rw [w_x_12]
      refine lv_bipush (v := (-4)) hx hb dX1_isSet_15 (by decide) ?_
      refine lv_icmp_eq (tgt := 24) hx hb dX1_isSet_17 (by decide) (fun c_14 => ?_) (fun c_14 => ?_)
      · skip
        have c_14 : x_12.toInt = (-4) := q_eq c_14
        refine lv_pc (pc2 := 24) rfl ?_
        refine lv_iconst (v := 0) hx hb dX1_isSet_24 (by decide) ?_
        have zi_0 : (0 : Int32).toInt = 0 := by decide
        exact ty_zret hx hb hr hlk rfl hG hS (Or.inr ⟨rfl, (by show ¬ gsQ gV a1.toInt; exact fun ⟨h1, h2, h3⟩ => by omega)⟩) dX1_isSet_25
      · skip
        have c_14 : x_12.toInt ≠ (-4) := q_ne c_14
        refine lv_iconst (v := 1) hx hb dX1_isSet_20 (by decide) ?_
        refine lv_goto (tgt := 25) hx hb dX1_isSet_21 (by decide) ?_
        have zi_1 : (1 : Int32).toInt = 1 := by decide
        exact ty_zret hx hb hr hlk rfl hG hS (Or.inl ⟨rfl, (by show gsQ gV a1.toInt; exact ⟨by omega, by omega, by omega⟩)⟩) dX1_isSet_25

def uvX1_set : List Cond := .code yX1_set cX1_set 5 none :: ([.initialized RX9, .static yX9_isNoGauge, .fieldLink RX1 9 "RiverModel$Gauges" "whats" "[I", .fieldLink RX1 15 "RiverModel$Gauges" "places" "[I", .fieldLink RX1 18 "RiverModel$Gauges" "seen" "[I", .code yX9_isNoGauge cX9_isNoGauge 1 (some .boolean)] ++ wsX10)
set_option maxRecDepth 20000 in
theorem gu_vX1_set_aX9_isNoGauge_n : GoodIn uvX1_set (uaX9_isNoGauge) := goodIn_r _ [6] rfl (by decide +kernel)
set_option maxHeartbeats 4000000 in
set_option maxRecDepth 100000 in
theorem v_X1_set (l : Launch) (D : va_G) (t : Nat → Nat) (cI cL cC : ClassId) (gC : Int32) (gP : Int32) (gT : Nat → Int32) (gR : Nat → Int32) (gm : Int32) (gs : Int32) (gg : Int32) (gL : Nat → Int32) (gQ : Nat → Int32) (gZ : Nat → Int32) (gE : Int32) (gV : Nat → Int32) (gU : Nat → Int32) (gN : Nat → Int32) (a0 : Nat) (a1 : Int32) (a2 : Int32) (a3 : Int32) (uq : ∀ b c : Nat, t b = t c → t b ≠ 0 → b = c) (h0 : 0 ≤ a1.toInt) (h3 : a1.toInt ≤ 3) (k_a0 : t a0 = 6) : tMx (Z := (Nat → Int32) × (Nat → Int32) × (Nat → Int32)) l yX1_set uvX1_set 1 20 D (rF cI cL cC gC gP gT gR gm gs gg gL gQ gZ gE gV gU gN) (fun z => (rF cI cL cC gC gP gT gR gm gs gg gL gQ gZ gE z.1 z.2.1 z.2.2)) t cI cL cC [.ref a0, .int a1, .int a2, .int a3] vG (xV (fun (z : (Nat → Int32) × (Nat → Int32) × (Nat → Int32)) => z.1 = upd gV a1.toInt.toNat a2 ∧ cpf gN z.2.2 (96 * a1.toInt) (fun _ => -1) 96)) := by
  refine tMx.ofW (cc := cX1_set) (maxL := 5) (ret := none) (by decide) rfl (Nat.le_of_ble_eq_true rfl) ?_
  intro p e s m below meth c hx hb hr hml hown hts hlk H locs hG hK hE hS ls hl
  have hl : lv_has ls 5 [(0, .ref a0), (1, .int a1), (2, .int a2), (3, .int a3)] := hl
  have in1 : ∀ w ∈ wsX10, w ∈ uvX1_set := fun w h => List.mem_cons_of_mem _ (List.mem_append_right _ h)
  refine lv_iload_n hx hb dX1_set_0 rfl (lv_at hl 1 rfl) ?_
  refine ty_calli (tRun (va_runSN (As := [.int a1]) (rest := []) ⟨hx, hb, hml, hown, hts⟩ (a_X9_isNoGauge l D t cI cL cC (rF cI cL cC gC gP gT gR gm gs gg gL gQ gZ gE gV gU gN) a1   ) ⟨(va_cnB 1 hts gu_vX1_set_aX9_isNoGauge_n rfl rfl rfl (hE.2.1 _ (List.mem_of_getElem? (i := 15) rfl)) (hts (.initialized RX9) (List.mem_of_getElem? (i := 1) rfl)) (by decide +kernel) ⟨Nat.le_of_ble_eq_true rfl, Nat.le_of_ble_eq_true rfl⟩), (hts (.static yX9_isNoGauge) (List.mem_of_getElem? (i := 2) rfl)), trivial⟩ (tP_S hG hE) rfl rfl hl.1 rfl (lv_room (Nat.le_of_ble_eq_true rfl)) dX1_set_1 ⟨Nat.le_of_ble_eq_true rfl, Nat.le_of_ble_eq_true rfl⟩)) hS (fun k h => by simp [wr0] at h) (fun r_1 H locs hp_2 hG hS o_3 => ?_)
  have hp_2 : (r_1 = 1 ∧ (a1.toInt < 0 ∨ 3 < a1.toInt)) ∨ (r_1 = 0 ∧ 0 ≤ a1.toInt ∧ a1.toInt ≤ 3) := hp_2
  rcases hp_2 with ⟨rfl, p_5⟩ | ⟨rfl, p_6, p_7⟩
  · skip
    refine lv_if_eq (tgt := 8) hx hb dX1_set_4 (by decide) (fun q => absurd q (by decide)) (fun _ => ?_)
    exact tx_vret (z := (gV, gU, gN)) hx hb hr hlk hG hS ⟨(by exfalso; omega), (by exfalso; omega)⟩ dX1_set_7
  · skip
    refine lv_if_eq (tgt := 8) hx hb dX1_set_4 (by decide) (fun _ => ?_) (fun q => absurd (by decide) q)
    refine lv_aload_n hx hb dX1_set_8 rfl (lv_at hl 0 rfl) ?_
    obtain ⟨r_8, r_10, r_12, at_14, h_9, h_11, h_13⟩ := rF_o6 hG k_a0
    refine va_get (D := D) (ci := 1) (v := .ref r_8) (C := RX1) (T := TX1) (N := 4) hx hb hts in1 hown hK (va_one at_14) 0 rfl rfl 0 (by decide) (hts (.fieldLink RX1 9 "RiverModel$Gauges" "whats" "[I") (List.mem_of_getElem? (i := 3) rfl)) (fun _ h9 => h9) rfl dX1_set_9 ?_
    refine lv_pc (pc2 := 12) rfl ?_
    refine lv_iload_n hx hb dX1_set_12 rfl (lv_at hl 1 rfl) ?_
    refine lv_iload_n hx hb dX1_set_13 rfl (lv_at hl 2 rfl) ?_
    have at_15 := rF_o21 hG h_9
    have b_16 : vp_in a1 4 := (q_in (by omega) (by omega))
    obtain ⟨q_17, eq_17⟩ : ∃ q : Nat → Int32, q = upd gV a1.toNatClampNeg a2 := ⟨_, rfl⟩
    refine ty_iast (F2 := (rF cI cL cC gC gP gT gR gm gs gg gL gQ gZ gE q_17 gU gN)) hx hb hK hG hS 0 at_15 (by rw [h_9]; rfl) rfl b_16 (by rw [h_9]; show _ = _; rw [eq_17]) (fun hG b hb h0 => by obtain ⟨e, g1, g2⟩ := hG b h0; exact ⟨e, g1, rF_gV (fun h => hb (uq b r_8 (h.trans h_9.symm) h0)) g2⟩) dX1_set_14 (fun H locs hG hS at_18 o_19 => ?_)
    have at_14 := va_at.keptK at_14 o_19 h_9 k_a0 rfl
    refine lv_aload_n hx hb dX1_set_15 rfl (lv_at hl 0 rfl) ?_
    refine va_get (D := D) (ci := 1) (v := .ref r_10) (C := RX1) (T := TX1) (N := 4) hx hb hts in1 hown hK (va_one at_14) 0 rfl rfl 1 (by decide) (hts (.fieldLink RX1 15 "RiverModel$Gauges" "places" "[I") (List.mem_of_getElem? (i := 4) rfl)) (fun _ h9 => h9) rfl dX1_set_16 ?_
    refine lv_iload_n hx hb dX1_set_19 rfl (lv_at hl 1 rfl) ?_
    refine lv_iload_n hx hb dX1_set_20 rfl (lv_at hl 3 rfl) ?_
    have at_20 := rF_o22 hG h_11
    have b_21 : vp_in a1 4 := (q_in (by omega) (by omega))
    obtain ⟨q_22, eq_22⟩ : ∃ q : Nat → Int32, q = upd gU a1.toNatClampNeg a3 := ⟨_, rfl⟩
    refine ty_iast (F2 := (rF cI cL cC gC gP gT gR gm gs gg gL gQ gZ gE q_17 q_22 gN)) hx hb hK hG hS 0 at_20 (by rw [h_11]; rfl) rfl b_21 (by rw [h_11]; show _ = _; rw [eq_22]) (fun hG b hb h0 => by obtain ⟨e, g1, g2⟩ := hG b h0; exact ⟨e, g1, rF_gU (fun h => hb (uq b r_10 (h.trans h_11.symm) h0)) g2⟩) dX1_set_21 (fun H locs hG hS at_23 o_24 => ?_)
    have at_14 := va_at.keptK at_14 o_24 h_11 k_a0 rfl
    refine lv_pc (pc2 := 22) rfl ?_
    refine lv_iconst (v := 0) hx hb dX1_set_22 (by decide) ?_
    refine lv_istore (lv' := [(4, .int 0), (0, .ref a0), (1, .int a1), (2, .int a2), (3, .int a3)]) hx hb dX1_set_23 hl (by decide) rfl (fun ls hl => ?_)
    refine lv_pc (pc2 := 25) rfl ?_
    refine lp_gen (fun WW25 hWW25 => ?_)
    have kx25 : ∀ (yk : Int32) (n1 : Nat → Int32) (H1 : Heap) (locs1 : List Loc) (ls1 : Array Slot), (0 ≤ yk.toInt) → (yk.toInt ≤ 96) → (cpf gN n1 (96 * a1.toInt) (fun _ => -1) yk.toInt) → (96 ≤ yk.toInt) → tG D (rF cI cL cC gC gP gT gR gm gs gg gL gQ gZ gE q_17 q_22 n1) t H1 → tF t vG s.heap H1 locs1 → lv_has ls1 5 [(4, .int yk), (0, .ref a0), (1, .int a1), (2, .int a2), (3, .int a3)] → WW25 H1 locs1 (F0 m 51 ls1 []) := by
      intro yk n1 H locs ls v25_0 v25_1 v25_2 xf25_0 hG hS hl
      refine (hWW25 _ _ _).mpr ?_
      exact tx_vret (z := (q_17, q_22, n1)) hx hb hr hlk hG hS ⟨(show q_17 = upd gV a1.toInt.toNat a2 from eq_17), (by show cpf gN n1 (96 * a1.toInt) (fun _ => -1) 96; exact cpf.at v25_2 (by omega))⟩ dX1_set_51
    have lp25 : ∀ (kk25 : Nat) (yk : Int32) (n1 : Nat → Int32) (H1 : Heap) (locs1 : List Loc) (ls1 : Array Slot), 96 - yk.toInt ≤ (kk25 : Int) → (0 ≤ yk.toInt) → (yk.toInt ≤ 96) → (cpf gN n1 (96 * a1.toInt) (fun _ => -1) yk.toInt) → tG D (rF cI cL cC gC gP gT gR gm gs gg gL gQ gZ gE q_17 q_22 n1) t H1 → tF t vG s.heap H1 locs1 → lv_has ls1 5 [(4, .int yk), (0, .ref a0), (1, .int a1), (2, .int a2), (3, .int a3)] → WW25 H1 locs1 (F0 m 25 ls1 []) := by
      intro kk25
      induction kk25 with
      | zero =>
        intro yk n1 H locs ls hk25 v25_0 v25_1 v25_2 hG hS hl
        refine (hWW25 _ _ _).mpr ?_
        refine lv_iload hx hb dX1_set_25 (lv_at hl 0 rfl) ?_
        refine lv_bipush (v := 96) hx hb dX1_set_27 (by decide) ?_
        refine lv_icmp_ge (tgt := 51) hx hb dX1_set_29 (by decide) (fun c_26 => ?_) (fun c_26 => ?_)
        · skip
          have c_26 : 96 ≤ yk.toInt := q_le c_26
          exact (hWW25 _ _ _).mp (kx25 yk n1 H locs ls v25_0 v25_1 v25_2 (by omega) hG hS (lv_sub hl [0, 1, 2, 3, 4] rfl))
        · skip
          have c_26 : yk.toInt < 96 := q_nle c_26
          exfalso; omega
      | succ kk25 ih25 =>
        intro yk n1 H locs ls hk25 v25_0 v25_1 v25_2 hG hS hl
        refine (hWW25 _ _ _).mpr ?_
        refine lv_iload hx hb dX1_set_25 (lv_at hl 0 rfl) ?_
        refine lv_bipush (v := 96) hx hb dX1_set_27 (by decide) ?_
        refine lv_pc (pc2 := 29) rfl ?_
        refine lv_icmp_ge (tgt := 51) hx hb dX1_set_29 (by decide) (fun c_27 => ?_) (fun c_27 => ?_)
        · skip
          have c_27 : 96 ≤ yk.toInt := q_le c_27
          exact (hWW25 _ _ _).mp (kx25 yk n1 H locs ls v25_0 v25_1 v25_2 (by omega) hG hS (lv_sub hl [0, 1, 2, 3, 4] rfl))
        · skip
          have c_27 : yk.toInt < 96 := q_nle c_27
          refine lv_aload_n hx hb dX1_set_32 rfl (lv_at hl 1 rfl) ?_
          obtain ⟨r_28, r_30, r_32, at_34, h_29, h_31, h_33⟩ := rF_o6 hG k_a0
          refine va_get (D := D) (ci := 1) (v := .ref r_32) (C := RX1) (T := TX1) (N := 4) hx hb hts in1 hown hK (va_one at_34) 0 rfl rfl 2 (by decide) (hts (.fieldLink RX1 18 "RiverModel$Gauges" "seen" "[I") (List.mem_of_getElem? (i := 5) rfl)) (fun _ h9 => h9) rfl dX1_set_33 ?_
          refine lv_iload_n hx hb dX1_set_36 rfl (lv_at hl 2 rfl) ?_
          refine lv_bipush (v := 96) hx hb dX1_set_37 (by decide) ?_
          refine lv_imul hx hb dX1_set_39 ?_
          refine lv_topi (fun x_35 e_36 => ?_)
          have i_x_35 : x_35.toInt = a1.toInt * 96 := by rw [e_36]; exact (q_mul (by rw [show (96 : Int32).toInt = 96 by decide]; omega) (by rw [show (96 : Int32).toInt = 96 by decide]; omega)).trans (by rw [show (96 : Int32).toInt = 96 by decide])
          refine lv_iload hx hb dX1_set_40 (lv_at hl 0 rfl) ?_
          refine lv_iadd hx hb dX1_set_42 ?_
          refine lv_topi (fun x_37 e_38 => ?_)
          have i_x_37 : x_37.toInt = x_35.toInt + yk.toInt := by rw [e_38]; exact (q_add (by omega) (by omega)).trans (by rfl)
          refine lv_pc (pc2 := 43) rfl ?_
          refine lv_iconst (v := (-1)) hx hb dX1_set_43 (by decide) ?_
          have at_39 := rF_o23 hG h_33
          have b_40 : vp_in x_37 384 := (q_in (by omega) (by omega))
          have zi_m1 : ((-1) : Int32).toInt = (-1) := by decide
          obtain ⟨q_41, eq_41⟩ : ∃ q : Nat → Int32, q = upd n1 x_37.toNatClampNeg (-1) := ⟨_, rfl⟩
          refine ty_iast (F2 := (rF cI cL cC gC gP gT gR gm gs gg gL gQ gZ gE q_17 q_22 q_41)) hx hb hK hG hS 0 at_39 (by rw [h_33]; rfl) rfl b_40 (by rw [h_33]; show _ = _; rw [eq_41]) (fun hG b hb h0 => by obtain ⟨e, g1, g2⟩ := hG b h0; exact ⟨e, g1, rF_gN (fun h => hb (uq b r_32 (h.trans h_33.symm) h0)) g2⟩) dX1_set_44 (fun H locs hG hS at_42 o_43 => ?_)
          have at_34 := va_at.keptK at_34 o_43 h_33 k_a0 rfl
          obtain ⟨x_44, e_45⟩ : ∃ y : Int32, y = yk + Int32.ofInt 1 := ⟨_, rfl⟩
          have i_x_44 : x_44.toInt = yk.toInt + 1 := by rw [e_45, show Int32.ofInt 1 = 1 by decide]; exact (q_add (by rw [show (1 : Int32).toInt = 1 by decide]; omega) (by rw [show (1 : Int32).toInt = 1 by decide]; omega)).trans (by rw [show (1 : Int32).toInt = 1 by decide])
          refine lv_iinc (v := x_44) (lv' := [(4, .int x_44), (0, .ref a0), (1, .int a1), (2, .int a2), (3, .int a3)]) hx hb dX1_set_45 hl (k := 0) rfl e_45.symm (by decide) rfl (fun ls hl => ?_)
          refine lv_goto (tgt := 25) hx hb dX1_set_48 (by decide) ?_
          exact (hWW25 _ _ _).mp (ih25 x_44 q_41 H locs ls (by omega) (by omega) (by omega) (cpf.step v25_2 (by omega) (by omega) rfl (i := x_37.toInt) (by omega) eq_41 (by omega)) hG hS (lv_sub hl [0, 1, 2, 3, 4] rfl))
    have zi_0 : (0 : Int32).toInt = 0 := by decide
    exact lp25 (96 - (0 : Int32).toInt : Int).toNat 0 gN H locs ls (by omega) (by omega) (by omega) (by rw [show (0 : Int32).toInt = 0 by decide]; exact cpf.zero) hG hS (lv_sub hl [0, 1, 2, 3, 4] rfl)
