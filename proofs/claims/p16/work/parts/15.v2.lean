theorem dX7_readAlone_0 : decode cX7_readAlone 0 = .ok (.aload_n 0, 1) := by decide +kernel
theorem dX7_readAlone_1 : decode cX7_readAlone 1 = .ok (.iconst 0, 1) := by decide +kernel
theorem dX7_readAlone_2 : decode cX7_readAlone 2 = .ok (.putfield 22, 3) := by decide +kernel
theorem dX7_readAlone_5 : decode cX7_readAlone 5 = .ok (.aload_n 0, 1) := by decide +kernel
theorem dX7_readAlone_6 : decode cX7_readAlone 6 = .ok (.invokevirtual 30, 3) := by decide +kernel
theorem dX7_readAlone_9 : decode cX7_readAlone 9 = .ok (.ifCond .eq 18, 3) := by decide +kernel
theorem dX7_readAlone_12 : decode cX7_readAlone 12 = .ok (.aload_n 0, 1) := by decide +kernel
theorem dX7_readAlone_13 : decode cX7_readAlone 13 = .ok (.getfield 22, 3) := by decide +kernel
theorem dX7_readAlone_16 : decode cX7_readAlone 16 = .ok (.aload_n 0, 1) := by decide +kernel
theorem dX7_readAlone_17 : decode cX7_readAlone 17 = .ok (.getfield 18, 3) := by decide +kernel
theorem dX7_readAlone_20 : decode cX7_readAlone 20 = .ok (.if_icmp .ne 7, 3) := by decide +kernel
theorem dX7_readAlone_23 : decode cX7_readAlone 23 = .ok (.iconst 1, 1) := by decide +kernel
theorem dX7_readAlone_24 : decode cX7_readAlone 24 = .ok (.goto 4, 3) := by decide +kernel
theorem dX7_readAlone_27 : decode cX7_readAlone 27 = .ok (.iconst 0, 1) := by decide +kernel
theorem dX7_readAlone_28 : decode cX7_readAlone 28 = .ok (.ireturn, 1) := by decide +kernel
theorem dX7_readItem_0 : decode cX7_readItem 0 = .ok (.aload_n 0, 1) := by decide +kernel
theorem dX7_readItem_1 : decode cX7_readItem 1 = .ok (.getfield 15, 3) := by decide +kernel
theorem dX7_readItem_4 : decode cX7_readItem 4 = .ok (.bipush (-4), 2) := by decide +kernel
theorem dX7_readItem_6 : decode cX7_readItem 6 = .ok (.invokestatic 42, 3) := by decide +kernel
theorem dX7_readItem_9 : decode cX7_readItem 9 = .ok (.aload_n 0, 1) := by decide +kernel
theorem dX7_readItem_10 : decode cX7_readItem 10 = .ok (.invokevirtual 48, 3) := by decide +kernel
theorem dX7_readItem_13 : decode cX7_readItem 13 = .ok (.istore_n 1, 1) := by decide +kernel
theorem dX7_readItem_14 : decode cX7_readItem 14 = .ok (.aload_n 0, 1) := by decide +kernel
theorem dX7_readItem_15 : decode cX7_readItem 15 = .ok (.getfield 15, 3) := by decide +kernel
theorem dX7_readItem_18 : decode cX7_readItem 18 = .ok (.iconst 0, 1) := by decide +kernel
theorem dX7_readItem_19 : decode cX7_readItem 19 = .ok (.iload_n 1, 1) := by decide +kernel
theorem dX7_readItem_20 : decode cX7_readItem 20 = .ok (.iastore, 1) := by decide +kernel
theorem dX7_readItem_21 : decode cX7_readItem 21 = .ok (.iload_n 1, 1) := by decide +kernel
theorem dX7_readItem_22 : decode cX7_readItem 22 = .ok (.invokestatic 52, 3) := by decide +kernel
theorem dX7_readItem_25 : decode cX7_readItem 25 = .ok (.istore_n 2, 1) := by decide +kernel
theorem dX7_readItem_26 : decode cX7_readItem 26 = .ok (.iconst 0, 1) := by decide +kernel
theorem dX7_readItem_27 : decode cX7_readItem 27 = .ok (.istore_n 3, 1) := by decide +kernel
theorem dX7_readItem_28 : decode cX7_readItem 28 = .ok (.iload_n 3, 1) := by decide +kernel
theorem dX7_readItem_29 : decode cX7_readItem 29 = .ok (.iload_n 2, 1) := by decide +kernel
theorem dX7_readItem_30 : decode cX7_readItem 30 = .ok (.if_icmp .ge 21, 3) := by decide +kernel
theorem dX7_readItem_33 : decode cX7_readItem 33 = .ok (.aload_n 0, 1) := by decide +kernel
theorem dX7_readItem_34 : decode cX7_readItem 34 = .ok (.iconst 1, 1) := by decide +kernel
theorem dX7_readItem_35 : decode cX7_readItem 35 = .ok (.iload_n 3, 1) := by decide +kernel
theorem dX7_readItem_36 : decode cX7_readItem 36 = .ok (.iadd, 1) := by decide +kernel
theorem dX7_readItem_37 : decode cX7_readItem 37 = .ok (.invokevirtual 58, 3) := by decide +kernel
theorem dX7_readItem_40 : decode cX7_readItem 40 = .ok (.ifCond .ne 5, 3) := by decide +kernel
theorem dX7_readItem_43 : decode cX7_readItem 43 = .ok (.iconst 0, 1) := by decide +kernel
theorem dX7_readItem_44 : decode cX7_readItem 44 = .ok (.ireturn, 1) := by decide +kernel
theorem dX7_readItem_45 : decode cX7_readItem 45 = .ok (.iinc 3 1, 3) := by decide +kernel
theorem dX7_readItem_48 : decode cX7_readItem 48 = .ok (.goto (-20), 3) := by decide +kernel
theorem dX7_readItem_51 : decode cX7_readItem 51 = .ok (.iload_n 1, 1) := by decide +kernel
theorem dX7_readItem_52 : decode cX7_readItem 52 = .ok (.invokestatic 62, 3) := by decide +kernel
theorem dX7_readItem_55 : decode cX7_readItem 55 = .ok (.istore_n 3, 1) := by decide +kernel
theorem dX7_readItem_56 : decode cX7_readItem 56 = .ok (.iconst 0, 1) := by decide +kernel
theorem dX7_readItem_57 : decode cX7_readItem 57 = .ok (.istore 4, 2) := by decide +kernel
theorem dX7_readItem_59 : decode cX7_readItem 59 = .ok (.iload 4, 2) := by decide +kernel
theorem dX7_readItem_61 : decode cX7_readItem 61 = .ok (.iload_n 3, 1) := by decide +kernel
theorem dX7_readItem_62 : decode cX7_readItem 62 = .ok (.if_icmp .ge 22, 3) := by decide +kernel
theorem dX7_readItem_65 : decode cX7_readItem 65 = .ok (.aload_n 0, 1) := by decide +kernel
theorem dX7_readItem_66 : decode cX7_readItem 66 = .ok (.iconst 3, 1) := by decide +kernel
theorem dX7_readItem_67 : decode cX7_readItem 67 = .ok (.iload 4, 2) := by decide +kernel
theorem dX7_readItem_69 : decode cX7_readItem 69 = .ok (.iadd, 1) := by decide +kernel
theorem dX7_readItem_70 : decode cX7_readItem 70 = .ok (.invokevirtual 65, 3) := by decide +kernel
theorem dX7_readItem_73 : decode cX7_readItem 73 = .ok (.ifCond .ne 5, 3) := by decide +kernel
theorem dX7_readItem_76 : decode cX7_readItem 76 = .ok (.iconst 0, 1) := by decide +kernel
theorem dX7_readItem_77 : decode cX7_readItem 77 = .ok (.ireturn, 1) := by decide +kernel
theorem dX7_readItem_78 : decode cX7_readItem 78 = .ok (.iinc 4 1, 3) := by decide +kernel
theorem dX7_readItem_81 : decode cX7_readItem 81 = .ok (.goto (-22), 3) := by decide +kernel
theorem dX7_readItem_84 : decode cX7_readItem 84 = .ok (.iload_n 2, 1) := by decide +kernel
theorem dX7_readItem_85 : decode cX7_readItem 85 = .ok (.ifCond .le 16, 3) := by decide +kernel
theorem dX7_readItem_88 : decode cX7_readItem 88 = .ok (.aload_n 0, 1) := by decide +kernel
theorem dX7_readItem_89 : decode cX7_readItem 89 = .ok (.invokevirtual 48, 3) := by decide +kernel
theorem dX7_readItem_92 : decode cX7_readItem 92 = .ok (.bipush 59, 2) := by decide +kernel
theorem dX7_readItem_94 : decode cX7_readItem 94 = .ok (.if_icmp .ne 7, 3) := by decide +kernel
theorem dX7_readItem_97 : decode cX7_readItem 97 = .ok (.iconst 1, 1) := by decide +kernel
theorem dX7_readItem_98 : decode cX7_readItem 98 = .ok (.goto 4, 3) := by decide +kernel
theorem dX7_readItem_101 : decode cX7_readItem 101 = .ok (.iconst 0, 1) := by decide +kernel
theorem dX7_readItem_102 : decode cX7_readItem 102 = .ok (.ireturn, 1) := by decide +kernel
theorem dX7_readName_0 : decode cX7_readName 0 = .ok (.aload_n 0, 1) := by decide +kernel
theorem dX7_readName_1 : decode cX7_readName 1 = .ok (.invokevirtual 48, 3) := by decide +kernel
theorem dX7_readName_4 : decode cX7_readName 4 = .ok (.bipush 97, 2) := by decide +kernel
theorem dX7_readName_6 : decode cX7_readName 6 = .ok (.isub, 1) := by decide +kernel
theorem dX7_readName_7 : decode cX7_readName 7 = .ok (.istore_n 2, 1) := by decide +kernel
theorem dX7_readName_8 : decode cX7_readName 8 = .ok (.aload_n 0, 1) := by decide +kernel
theorem dX7_readName_9 : decode cX7_readName 9 = .ok (.getfield 15, 3) := by decide +kernel
theorem dX7_readName_12 : decode cX7_readName 12 = .ok (.iload_n 1, 1) := by decide +kernel
theorem dX7_readName_13 : decode cX7_readName 13 = .ok (.iload_n 2, 1) := by decide +kernel
theorem dX7_readName_14 : decode cX7_readName 14 = .ok (.iastore, 1) := by decide +kernel
theorem dX7_readName_15 : decode cX7_readName 15 = .ok (.iload_n 2, 1) := by decide +kernel
theorem dX7_readName_16 : decode cX7_readName 16 = .ok (.invokestatic 68, 3) := by decide +kernel
theorem dX7_readName_19 : decode cX7_readName 19 = .ok (.ifCond .ne 7, 3) := by decide +kernel
theorem dX7_readName_22 : decode cX7_readName 22 = .ok (.iconst 1, 1) := by decide +kernel
theorem dX7_readName_23 : decode cX7_readName 23 = .ok (.goto 4, 3) := by decide +kernel
theorem dX7_readName_26 : decode cX7_readName 26 = .ok (.iconst 0, 1) := by decide +kernel
theorem dX7_readName_27 : decode cX7_readName 27 = .ok (.ireturn, 1) := by decide +kernel
theorem dX7_readNumber_0 : decode cX7_readNumber 0 = .ok (.aload_n 0, 1) := by decide +kernel
theorem dX7_readNumber_1 : decode cX7_readNumber 1 = .ok (.invokevirtual 48, 3) := by decide +kernel
theorem dX7_readNumber_4 : decode cX7_readNumber 4 = .ok (.bipush 44, 2) := by decide +kernel
theorem dX7_readNumber_6 : decode cX7_readNumber 6 = .ok (.if_icmp .eq 5, 3) := by decide +kernel
theorem dX7_readNumber_9 : decode cX7_readNumber 9 = .ok (.iconst 0, 1) := by decide +kernel
theorem dX7_readNumber_10 : decode cX7_readNumber 10 = .ok (.ireturn, 1) := by decide +kernel
theorem dX7_readNumber_11 : decode cX7_readNumber 11 = .ok (.iconst 0, 1) := by decide +kernel
theorem dX7_readNumber_12 : decode cX7_readNumber 12 = .ok (.istore_n 2, 1) := by decide +kernel
theorem dX7_readNumber_13 : decode cX7_readNumber 13 = .ok (.iconst 0, 1) := by decide +kernel
theorem dX7_readNumber_14 : decode cX7_readNumber 14 = .ok (.istore_n 3, 1) := by decide +kernel
theorem dX7_readNumber_15 : decode cX7_readNumber 15 = .ok (.iload_n 3, 1) := by decide +kernel
theorem dX7_readNumber_16 : decode cX7_readNumber 16 = .ok (.bipush 7, 2) := by decide +kernel
theorem dX7_readNumber_18 : decode cX7_readNumber 18 = .ok (.if_icmp .ge 29, 3) := by decide +kernel
theorem dX7_readNumber_21 : decode cX7_readNumber 21 = .ok (.aload_n 0, 1) := by decide +kernel
theorem dX7_readNumber_22 : decode cX7_readNumber 22 = .ok (.invokevirtual 71, 3) := by decide +kernel
theorem dX7_readNumber_25 : decode cX7_readNumber 25 = .ok (.ifCond .eq 22, 3) := by decide +kernel
theorem dX7_readNumber_28 : decode cX7_readNumber 28 = .ok (.iload_n 2, 1) := by decide +kernel
theorem dX7_readNumber_29 : decode cX7_readNumber 29 = .ok (.bipush 10, 2) := by decide +kernel
theorem dX7_readNumber_31 : decode cX7_readNumber 31 = .ok (.imul, 1) := by decide +kernel
theorem dX7_readNumber_32 : decode cX7_readNumber 32 = .ok (.aload_n 0, 1) := by decide +kernel
theorem dX7_readNumber_33 : decode cX7_readNumber 33 = .ok (.invokevirtual 48, 3) := by decide +kernel
theorem dX7_readNumber_36 : decode cX7_readNumber 36 = .ok (.iadd, 1) := by decide +kernel
theorem dX7_readNumber_37 : decode cX7_readNumber 37 = .ok (.bipush 48, 2) := by decide +kernel
theorem dX7_readNumber_39 : decode cX7_readNumber 39 = .ok (.isub, 1) := by decide +kernel
theorem dX7_readNumber_40 : decode cX7_readNumber 40 = .ok (.istore_n 2, 1) := by decide +kernel
theorem dX7_readNumber_41 : decode cX7_readNumber 41 = .ok (.iinc 3 1, 3) := by decide +kernel
theorem dX7_readNumber_44 : decode cX7_readNumber 44 = .ok (.goto (-29), 3) := by decide +kernel
theorem dX7_readNumber_47 : decode cX7_readNumber 47 = .ok (.aload_n 0, 1) := by decide +kernel
theorem dX7_readNumber_48 : decode cX7_readNumber 48 = .ok (.getfield 15, 3) := by decide +kernel
theorem dX7_readNumber_51 : decode cX7_readNumber 51 = .ok (.iload_n 1, 1) := by decide +kernel
theorem dX7_readNumber_52 : decode cX7_readNumber 52 = .ok (.iload_n 2, 1) := by decide +kernel
theorem dX7_readNumber_53 : decode cX7_readNumber 53 = .ok (.iastore, 1) := by decide +kernel
theorem dX7_readNumber_54 : decode cX7_readNumber 54 = .ok (.iload_n 3, 1) := by decide +kernel
theorem dX7_readNumber_55 : decode cX7_readNumber 55 = .ok (.ifCond .le 7, 3) := by decide +kernel
theorem dX7_readNumber_58 : decode cX7_readNumber 58 = .ok (.iconst 1, 1) := by decide +kernel
theorem dX7_readNumber_59 : decode cX7_readNumber 59 = .ok (.goto 4, 3) := by decide +kernel
theorem dX7_readNumber_62 : decode cX7_readNumber 62 = .ok (.iconst 0, 1) := by decide +kernel
theorem dX7_readNumber_63 : decode cX7_readNumber 63 = .ok (.ireturn, 1) := by decide +kernel
theorem dX7_isAtFigure_0 : decode cX7_isAtFigure 0 = .ok (.aload_n 0, 1) := by decide +kernel
theorem dX7_isAtFigure_1 : decode cX7_isAtFigure 1 = .ok (.getfield 22, 3) := by decide +kernel
theorem dX7_isAtFigure_4 : decode cX7_isAtFigure 4 = .ok (.aload_n 0, 1) := by decide +kernel
theorem dX7_isAtFigure_5 : decode cX7_isAtFigure 5 = .ok (.getfield 18, 3) := by decide +kernel
theorem dX7_isAtFigure_8 : decode cX7_isAtFigure 8 = .ok (.if_icmp .ge 26, 3) := by decide +kernel
theorem dX7_isAtFigure_11 : decode cX7_isAtFigure 11 = .ok (.aload_n 0, 1) := by decide +kernel
theorem dX7_isAtFigure_12 : decode cX7_isAtFigure 12 = .ok (.getfield 9, 3) := by decide +kernel
theorem dX7_isAtFigure_15 : decode cX7_isAtFigure 15 = .ok (.aload_n 0, 1) := by decide +kernel
theorem dX7_isAtFigure_16 : decode cX7_isAtFigure 16 = .ok (.getfield 22, 3) := by decide +kernel
theorem dX7_isAtFigure_19 : decode cX7_isAtFigure 19 = .ok (.iaload, 1) := by decide +kernel
theorem dX7_isAtFigure_20 : decode cX7_isAtFigure 20 = .ok (.bipush 48, 2) := by decide +kernel
theorem dX7_isAtFigure_22 : decode cX7_isAtFigure 22 = .ok (.bipush 57, 2) := by decide +kernel
theorem dX7_isAtFigure_24 : decode cX7_isAtFigure 24 = .ok (.invokestatic 74, 3) := by decide +kernel
theorem dX7_isAtFigure_27 : decode cX7_isAtFigure 27 = .ok (.ifCond .ne 7, 3) := by decide +kernel
theorem dX7_isAtFigure_30 : decode cX7_isAtFigure 30 = .ok (.iconst 1, 1) := by decide +kernel
theorem dX7_isAtFigure_31 : decode cX7_isAtFigure 31 = .ok (.goto 4, 3) := by decide +kernel
theorem dX7_isAtFigure_34 : decode cX7_isAtFigure 34 = .ok (.iconst 0, 1) := by decide +kernel
theorem dX7_isAtFigure_35 : decode cX7_isAtFigure 35 = .ok (.ireturn, 1) := by decide +kernel
def uvX7_isAtFigure : List Cond := .code yX7_isAtFigure cX7_isAtFigure 1 (some .boolean) :: ([.fieldLink RX7 22 "RiverModel$Text" "at" "I", .fieldLink RX7 18 "RiverModel$Text" "length" "I", .fieldLink RX7 9 "RiverModel$Text" "bytes" "[I", .initialized RX9, .static yX9_isOutside, .code yX9_isOutside cX9_isOutside 3 (some .boolean)] ++ wsX70)
set_option maxRecDepth 20000 in
theorem gu_vX7_isAtFigure_aX9_isOutside_n : GoodIn uvX7_isAtFigure (uaX9_isOutside) := goodIn_r _ [6] rfl (by decide +kernel)
set_option maxHeartbeats 4000000 in
set_option maxRecDepth 100000 in
theorem v_X7_isAtFigure (l : Launch) (D : va_G) (t : Nat → Nat) (cI cL cC : ClassId) (gC : Int32) (gP : Int32) (gT : Nat → Int32) (gR : Nat → Int32) (gm : Int32) (gs : Int32) (gg : Int32) (gL : Nat → Int32) (gQ : Nat → Int32) (gZ : Nat → Int32) (gE : Int32) (gV : Nat → Int32) (gU : Nat → Int32) (gN : Nat → Int32) (a0 : Nat) (P : Int) (uq : ∀ b c : Nat, t b = t c → t b ≠ 0 → b = c) (hC0 : 0 ≤ gC.toInt) (hC4 : gC.toInt ≤ 400) (hT : gBd 400 0 255 gT) (hP : gP.toInt = P) (hP0 : 0 ≤ P) (hP4 : P ≤ 400) (k_a0 : t a0 = 2) : tM l yX7_isAtFigure uvX7_isAtFigure 1 22 D (rF cI cL cC gC gP gT gR gm gs gg gL gQ gZ gE gV gU gN) (rF cI cL cC gC gP gT gR gm gs gg gL gQ gZ gE gV gU gN) t cI cL cC [.ref a0] wr0 (pI (fun r => (r = 1 ∧ dgB (byT gT gC P) ∧ P < gC.toInt) ∨ (r = 0 ∧ ¬ dgB (byT gT gC P)))) := by
  refine tM.ofW (cc := cX7_isAtFigure) (maxL := 1) (ret := (some .boolean)) (by decide) rfl (Nat.le_of_ble_eq_true rfl) ?_
  intro p e s m below meth c hx hb hr hml hown hts hlk H locs hG hK hE hS ls hl
  have hl : lv_has ls 1 [(0, .ref a0)] := hl
  have in7 : ∀ w ∈ wsX70, w ∈ uvX7_isAtFigure := fun w h => List.mem_cons_of_mem _ (List.mem_append_right _ h)
  refine lv_aload_n hx hb dX7_isAtFigure_0 rfl (lv_at hl 0 rfl) ?_
  obtain ⟨r_1, r_3, at_5, h_2, h_4⟩ := rF_o2 hG k_a0
  refine va_get (D := D) (ci := 6) (v := .int gP) (C := RX7) (T := TX7) (N := 4) hx hb hts in7 hown hK (va_one at_5) 0 rfl rfl 3 (by decide) (hts (.fieldLink RX7 22 "RiverModel$Text" "at" "I") (List.mem_of_getElem? (i := 1) rfl)) (fun _ h9 => h9) rfl dX7_isAtFigure_1 ?_
  refine lv_aload_n hx hb dX7_isAtFigure_4 rfl (lv_at hl 0 rfl) ?_
  refine va_get (D := D) (ci := 6) (v := .int gC) (C := RX7) (T := TX7) (N := 4) hx hb hts in7 hown hK (va_one at_5) 0 rfl rfl 2 (by decide) (hts (.fieldLink RX7 18 "RiverModel$Text" "length" "I") (List.mem_of_getElem? (i := 2) rfl)) (fun _ h9 => h9) rfl dX7_isAtFigure_5 ?_
  refine lv_icmp_ge (tgt := 34) hx hb dX7_isAtFigure_8 (by decide) (fun c_6 => ?_) (fun c_6 => ?_)
  · skip
    have c_6 : gC.toInt ≤ gP.toInt := q_le c_6
    refine lv_iconst (v := 0) hx hb dX7_isAtFigure_34 (by decide) ?_
    have zi_0 : (0 : Int32).toInt = 0 := by decide
    exact ty_zret hx hb hr hlk rfl hG hS (Or.inr ⟨rfl, (by show ¬ dgB (byT gT gC P); unfold dgB; first | (rw [byT_in (by omega)]; omega) | (rw [byT_out (by omega)]; omega))⟩) dX7_isAtFigure_35
  · skip
    have c_6 : gP.toInt < gC.toInt := q_nle c_6
    refine lv_pc (pc2 := 11) rfl ?_
    refine lv_aload_n hx hb dX7_isAtFigure_11 rfl (lv_at hl 0 rfl) ?_
    refine va_get (D := D) (ci := 6) (v := .ref r_1) (C := RX7) (T := TX7) (N := 4) hx hb hts in7 hown hK (va_one at_5) 0 rfl rfl 0 (by decide) (hts (.fieldLink RX7 9 "RiverModel$Text" "bytes" "[I") (List.mem_of_getElem? (i := 3) rfl)) (fun _ h9 => h9) rfl dX7_isAtFigure_12 ?_
    refine lv_aload_n hx hb dX7_isAtFigure_15 rfl (lv_at hl 0 rfl) ?_
    refine va_get (D := D) (ci := 6) (v := .int gP) (C := RX7) (T := TX7) (N := 4) hx hb hts in7 hown hK (va_one at_5) 0 rfl rfl 3 (by decide) (hts (.fieldLink RX7 22 "RiverModel$Text" "at" "I") (List.mem_of_getElem? (i := 1) rfl)) (fun _ h9 => h9) rfl dX7_isAtFigure_16 ?_
    have at_7 := rF_o10 hG h_2
    have b_8 : vp_in gP 400 := (q_in (by omega) (by omega))
    refine va_iald hx hb hK (va_one at_7) 0 0 rfl rfl b_8 dX7_isAtFigure_19 ?_
    refine lv_topi (fun x_9 e_10 => ?_)
    have w_x_9 : x_9 = gT (P).toNat := by rw [e_10]; exact congrArg (fun q : Int => gT q.toNat) (show gP.toInt = P by omega)
    have i_x_9 : x_9.toInt = (gT (P).toNat).toInt := by rw [w_x_9]
    refine lv_bipush (v := 48) hx hb dX7_isAtFigure_20 (by decide) ?_
    refine lv_bipush (v := 57) hx hb dX7_isAtFigure_22 (by decide) ?_
    have zi_48 : (48 : Int32).toInt = 48 := by decide
    have zi_57 : (57 : Int32).toInt = 57 := by decide
    refine ty_calli (tRun (va_runSN (As := [.int x_9, .int 48, .int 57]) (rest := []) ⟨hx, hb, hml, hown, hts⟩ (a_X9_isOutside l D t cI cL cC (rF cI cL cC gC gP gT gR gm gs gg gL gQ gZ gE gV gU gN) x_9 48 57 x_9.toInt 48 57 rfl (by decide) (by decide) ) ⟨(va_cnB 3 hts gu_vX7_isAtFigure_aX9_isOutside_n rfl rfl rfl (hE.2.1 _ (List.mem_of_getElem? (i := 7) rfl)) (hts (.initialized RX9) (List.mem_of_getElem? (i := 4) rfl)) (by decide +kernel) ⟨Nat.le_of_ble_eq_true rfl, Nat.le_of_ble_eq_true rfl⟩), (hts (.static yX9_isOutside) (List.mem_of_getElem? (i := 5) rfl)), trivial⟩ (tP_S hG hE) rfl rfl hl.1 rfl (lv_room (Nat.le_of_ble_eq_true rfl)) dX7_isAtFigure_24 ⟨Nat.le_of_ble_eq_true rfl, Nat.le_of_ble_eq_true rfl⟩)) hS (fun _ h => h) (fun r_11 H locs hp_12 hG hS o_13 => ?_)
    have at_5 := va_at.keptC at_5 o_13 k_a0 rfl
    have at_7 := va_at.keptC at_7 o_13 h_2 rfl
    have hp_12 : (r_11 = 1 ∧ (x_9.toInt < 48 ∨ 57 < x_9.toInt)) ∨ (r_11 = 0 ∧ 48 ≤ x_9.toInt ∧ x_9.toInt ≤ 57) := hp_12
    rcases hp_12 with ⟨rfl, p_15⟩ | ⟨rfl, p_16, p_17⟩
    · skip
      refine lv_pc (pc2 := 27) rfl ?_
      refine lv_if_ne (tgt := 34) hx hb dX7_isAtFigure_27 (by decide) (fun _ => ?_) (fun q => absurd q (by decide))
      refine lv_iconst (v := 0) hx hb dX7_isAtFigure_34 (by decide) ?_
      have zi_0 : (0 : Int32).toInt = 0 := by decide
      exact ty_zret hx hb hr hlk rfl hG hS (Or.inr ⟨rfl, (by show ¬ dgB (byT gT gC P); unfold dgB; first | (rw [byT_in (by omega)]; omega) | (rw [byT_out (by omega)]; omega))⟩) dX7_isAtFigure_35
    · skip
      refine lv_if_ne (tgt := 34) hx hb dX7_isAtFigure_27 (by decide) (fun q => absurd rfl q) (fun _ => ?_)
      refine lv_iconst (v := 1) hx hb dX7_isAtFigure_30 (by decide) ?_
      refine lv_goto (tgt := 35) hx hb dX7_isAtFigure_31 (by decide) ?_
      have zi_1 : (1 : Int32).toInt = 1 := by decide
      exact ty_zret hx hb hr hlk rfl hG hS (Or.inl ⟨rfl, (by show dgB (byT gT gC P); unfold dgB; first | (rw [byT_in (by omega)]; omega) | (rw [byT_out (by omega)]; omega)), (by show P < gC.toInt; omega)⟩) dX7_isAtFigure_35

def uvX7_readName : List Cond := .code yX7_readName cX7_readName 3 (some .boolean) :: ([.methodLink RX7 48 yX7_nextByte, .instanceMethod yX7_nextByte, .selects RX7 yX7_nextByte yX7_nextByte, .initialized RX7, .fieldLink RX7 15 "RiverModel$Text" "row" "[I", .initialized RX9, .static yX9_isNoStore, .code yX7_nextByte cX7_nextByte 1 (some .int), .fieldLink RX7 22 "RiverModel$Text" "at" "I", .fieldLink RX7 18 "RiverModel$Text" "length" "I", .fieldLink RX7 9 "RiverModel$Text" "bytes" "[I", .code yX9_isNoStore cX9_isNoStore 1 (some .boolean)] ++ wsX70)
set_option maxRecDepth 20000 in
theorem gu_vX7_readName_vX7_nextByte_48 : GoodIn uvX7_readName (wsV RX7 48 RX7 yX7_nextByte uvX7_nextByte) := goodIn_r _ [1, 2, 3, 4, 8, 9, 10, 11, 13, 14, 15, 16] rfl (by decide +kernel)
set_option maxRecDepth 20000 in
theorem gu_vX7_readName_aX9_isNoStore_n : GoodIn uvX7_readName (uaX9_isNoStore) := goodIn_r _ [12] rfl (by decide +kernel)
set_option maxHeartbeats 4000000 in
set_option maxRecDepth 100000 in
theorem v_X7_readName (l : Launch) (D : va_G) (t : Nat → Nat) (cI cL cC : ClassId) (gC : Int32) (gP : Int32) (gT : Nat → Int32) (gR : Nat → Int32) (gm : Int32) (gs : Int32) (gg : Int32) (gL : Nat → Int32) (gQ : Nat → Int32) (gZ : Nat → Int32) (gE : Int32) (gV : Nat → Int32) (gU : Nat → Int32) (gN : Nat → Int32) (a0 : Nat) (a1 : Int32) (P : Int) (uq : ∀ b c : Nat, t b = t c → t b ≠ 0 → b = c) (hC0 : 0 ≤ gC.toInt) (hC4 : gC.toInt ≤ 400) (hT : gBd 400 0 255 gT) (hP : gP.toInt = P) (hP0 : 0 ≤ P) (hP4 : P ≤ 400) (hc0 : 0 ≤ a1.toInt) (hc5 : a1.toInt ≤ 5) (k_a0 : t a0 = 2) : tMx (Z := (Int32) × (Nat → Int32)) l yX7_readName uvX7_readName 1 20 D (rF cI cL cC gC gP gT gR gm gs gg gL gQ gZ gE gV gU gN) (fun z => (rF cI cL cC gC z.1 gT z.2 gm gs gg gL gQ gZ gE gV gU gN)) t cI cL cC [.ref a0, .int a1] vTR (xI (fun r (z : (Int32) × (Nat → Int32)) => (r = 1 ∧ nmB (byT gT gC P) ∧ z.1.toInt = P + 1 ∧ nmR (byT gT gC) P gR z.2 a1.toInt.toNat ∧ 0 ≤ z.1.toInt ∧ z.1.toInt ≤ 400) ∨ (r = 0 ∧ ¬ nmB (byT gT gC P) ∧ 0 ≤ z.1.toInt ∧ z.1.toInt ≤ 400))) := by
  refine tMx.ofW (cc := cX7_readName) (maxL := 3) (ret := (some .boolean)) (by decide) rfl (Nat.le_of_ble_eq_true rfl) ?_
  intro p e s m below meth c hx hb hr hml hown hts hlk H locs hG hK hE hS ls hl
  have hl : lv_has ls 3 [(0, .ref a0), (1, .int a1)] := hl
  have in7 : ∀ w ∈ wsX70, w ∈ uvX7_readName := fun w h => List.mem_cons_of_mem _ (List.mem_append_right _ h)
  refine lv_aload_n hx hb dX7_readName_0 rfl (lv_at hl 0 rfl) ?_
  obtain ⟨r_1, r_3, at_5, h_2, h_4⟩ := rF_o2 hG k_a0
  refine tx_calli (W.runV (As := []) (rest := []) ⟨hx, hb, hml, hown, hts⟩ (v_X7_nextByte l D t cI cL cC gC gP gT gR gm gs gg gL gQ gZ gE gV gU gN a0 P uq (by omega) (by omega) hT (by omega) (by omega) (by omega) k_a0) (cwV 0 hts gu_vX7_readName_vX7_nextByte_48 rfl rfl rfl (by decide +kernel) ⟨Nat.le_of_ble_eq_true rfl, Nat.le_of_ble_eq_true rfl⟩) (tP_V hG hE at_5 rfl) rfl rfl hl.1 rfl (lv_room (Nat.le_of_ble_eq_true rfl)) dX7_readName_1 ⟨Nat.le_of_ble_eq_true rfl, Nat.le_of_ble_eq_true rfl⟩) hS (wrL_sub (by decide)) (fun r_6 gP_10 H locs hp_7 hG hS o_8 => ?_)
  replace hG : tG D (rF cI cL cC gC gP_10 gT gR gm gs gg gL gQ gZ gE gV gU gN) t H := hG
  have hp_7 : r_6.toInt = byT gT gC P ∧ ((gP_10.toInt = P + 1 ∧ P < gC.toInt) ∨ (gP_10.toInt = P ∧ gC.toInt ≤ P ∧ r_6.toInt = -1)) ∧ -1 ≤ r_6.toInt ∧ r_6.toInt ≤ 255 ∧ 0 ≤ gP_10.toInt ∧ gP_10.toInt ≤ 400 := hp_7
  obtain ⟨p_11, p_12, p_13, p_14, p_15, p_16⟩ := hp_7
  refine lv_bipush (v := 97) hx hb dX7_readName_4 (by decide) ?_
  refine lv_isub hx hb dX7_readName_6 ?_
  refine lv_topi (fun x_17 e_18 => ?_)
  have i_x_17 : x_17.toInt = r_6.toInt - 97 := by rw [e_18]; exact (q_sub (by rw [show (97 : Int32).toInt = 97 by decide]; omega) (by rw [show (97 : Int32).toInt = 97 by decide]; omega)).trans (by rw [show (97 : Int32).toInt = 97 by decide])
  refine lv_istore_n (lv' := [(2, .int x_17), (0, .ref a0), (1, .int a1)]) hx hb dX7_readName_7 rfl hl (by decide) rfl (fun ls hl => ?_)
  refine lv_aload_n hx hb dX7_readName_8 rfl (lv_at hl 1 rfl) ?_
  obtain ⟨r_19, r_21, at_23, h_20, h_22⟩ := rF_o2 hG k_a0
  refine va_get (D := D) (ci := 6) (v := .ref r_21) (C := RX7) (T := TX7) (N := 4) hx hb hts in7 hown hK (va_one at_23) 0 rfl rfl 1 (by decide) (hts (.fieldLink RX7 15 "RiverModel$Text" "row" "[I") (List.mem_of_getElem? (i := 5) rfl)) (fun _ h9 => h9) rfl dX7_readName_9 ?_
  refine lv_pc (pc2 := 12) rfl ?_
  refine lv_iload_n hx hb dX7_readName_12 rfl (lv_at hl 2 rfl) ?_
  refine lv_iload_n hx hb dX7_readName_13 rfl (lv_at hl 0 rfl) ?_
  have at_24 := rF_o11 hG h_22
  have b_25 : vp_in a1 6 := (q_in (by omega) (by omega))
  obtain ⟨q_26, eq_26⟩ : ∃ q : Nat → Int32, q = upd gR a1.toNatClampNeg x_17 := ⟨_, rfl⟩
  refine ty_iast (F2 := (rF cI cL cC gC gP_10 gT q_26 gm gs gg gL gQ gZ gE gV gU gN)) hx hb hK hG hS 0 at_24 (by rw [h_22]; rfl) rfl b_25 (by rw [h_22]; show _ = _; rw [eq_26]) (fun hG b hb h0 => by obtain ⟨e, g1, g2⟩ := hG b h0; exact ⟨e, g1, rF_gR (fun h => hb (uq b r_21 (h.trans h_22.symm) h0)) g2⟩) dX7_readName_14 (fun H locs hG hS at_27 o_28 => ?_)
  have at_23 := va_at.keptK at_23 o_28 h_22 k_a0 rfl
  refine lv_iload_n hx hb dX7_readName_15 rfl (lv_at hl 0 rfl) ?_
  refine ty_calli (tRun (va_runSN (As := [.int x_17]) (rest := []) ⟨hx, hb, hml, hown, hts⟩ (a_X9_isNoStore l D t cI cL cC (rF cI cL cC gC gP_10 gT q_26 gm gs gg gL gQ gZ gE gV gU gN) x_17   ) ⟨(va_cnB 1 hts gu_vX7_readName_aX9_isNoStore_n rfl rfl rfl (hE.2.1 _ (List.mem_of_getElem? (i := 6) rfl)) (hts (.initialized RX9) (List.mem_of_getElem? (i := 6) rfl)) (by decide +kernel) ⟨Nat.le_of_ble_eq_true rfl, Nat.le_of_ble_eq_true rfl⟩), (hts (.static yX9_isNoStore) (List.mem_of_getElem? (i := 7) rfl)), trivial⟩ (tP_S hG hE) rfl rfl hl.1 rfl (lv_room (Nat.le_of_ble_eq_true rfl)) dX7_readName_16 ⟨Nat.le_of_ble_eq_true rfl, Nat.le_of_ble_eq_true rfl⟩)) hS (fun k h => by simp [wr0] at h) (fun r_29 H locs hp_30 hG hS o_31 => ?_)
  have at_23 := va_at.keptC at_23 o_31 k_a0 rfl
  have hp_30 : (r_29 = 1 ∧ (x_17.toInt < 0 ∨ 15 < x_17.toInt)) ∨ (r_29 = 0 ∧ 0 ≤ x_17.toInt ∧ x_17.toInt ≤ 15) := hp_30
  rcases hp_30 with ⟨rfl, p_33⟩ | ⟨rfl, p_34, p_35⟩
  · skip
    refine lv_if_ne (tgt := 26) hx hb dX7_readName_19 (by decide) (fun _ => ?_) (fun q => absurd q (by decide))
    refine lv_iconst (v := 0) hx hb dX7_readName_26 (by decide) ?_
    have zi_0 : (0 : Int32).toInt = 0 := by decide
    exact tx_zret (z := (gP_10, q_26)) hx hb hr hlk rfl hG hS (Or.inr ⟨rfl, (by show ¬ nmB (byT gT gC P); unfold nmB; omega), (by show 0 ≤ gP_10.toInt; omega), (by show gP_10.toInt ≤ 400; omega)⟩) dX7_readName_27
  · skip
    refine lv_pc (pc2 := 19) rfl ?_
    refine lv_if_ne (tgt := 26) hx hb dX7_readName_19 (by decide) (fun q => absurd rfl q) (fun _ => ?_)
    refine lv_iconst (v := 1) hx hb dX7_readName_22 (by decide) ?_
    refine lv_goto (tgt := 27) hx hb dX7_readName_23 (by decide) ?_
    have zi_1 : (1 : Int32).toInt = 1 := by decide
    exact tx_zret (z := (gP_10, q_26)) hx hb hr hlk rfl hG hS (Or.inl ⟨rfl, (by show nmB (byT gT gC P); unfold nmB; omega), (by show gP_10.toInt = P + 1; omega), (by show nmR (byT gT gC) P gR q_26 a1.toInt.toNat; exact ⟨x_17, by omega, eq_26⟩), (by show 0 ≤ gP_10.toInt; omega), (by show gP_10.toInt ≤ 400; omega)⟩) dX7_readName_27

def uvX7_readNumber : List Cond := .code yX7_readNumber cX7_readNumber 4 (some .boolean) :: ([.methodLink RX7 48 yX7_nextByte, .instanceMethod yX7_nextByte, .selects RX7 yX7_nextByte yX7_nextByte, .initialized RX7, .fieldLink RX7 15 "RiverModel$Text" "row" "[I", .methodLink RX7 71 yX7_isAtFigure, .instanceMethod yX7_isAtFigure, .selects RX7 yX7_isAtFigure yX7_isAtFigure, .code yX7_nextByte cX7_nextByte 1 (some .int), .fieldLink RX7 22 "RiverModel$Text" "at" "I", .fieldLink RX7 18 "RiverModel$Text" "length" "I", .fieldLink RX7 9 "RiverModel$Text" "bytes" "[I", .code yX7_isAtFigure cX7_isAtFigure 1 (some .boolean), .initialized RX9, .static yX9_isOutside, .code yX9_isOutside cX9_isOutside 3 (some .boolean)] ++ wsX70)
set_option maxRecDepth 20000 in
theorem gu_vX7_readNumber_vX7_nextByte_48 : GoodIn uvX7_readNumber (wsV RX7 48 RX7 yX7_nextByte uvX7_nextByte) := goodIn_r _ [1, 2, 3, 4, 9, 10, 11, 12, 17, 18, 19, 20] rfl (by decide +kernel)
set_option maxRecDepth 20000 in
theorem gu_vX7_readNumber_vX7_isAtFigure_71 : GoodIn uvX7_readNumber (wsV RX7 71 RX7 yX7_isAtFigure uvX7_isAtFigure) := goodIn_r _ [6, 7, 8, 4, 13, 10, 11, 12, 14, 15, 16, 17, 18, 19, 20] rfl (by decide +kernel)
set_option maxHeartbeats 4000000 in
set_option maxRecDepth 100000 in
theorem v_X7_readNumber (l : Launch) (D : va_G) (t : Nat → Nat) (cI cL cC : ClassId) (gC : Int32) (gP : Int32) (gT : Nat → Int32) (gR : Nat → Int32) (gm : Int32) (gs : Int32) (gg : Int32) (gL : Nat → Int32) (gQ : Nat → Int32) (gZ : Nat → Int32) (gE : Int32) (gV : Nat → Int32) (gU : Nat → Int32) (gN : Nat → Int32) (a0 : Nat) (a1 : Int32) (P : Int) (uq : ∀ b c : Nat, t b = t c → t b ≠ 0 → b = c) (hC0 : 0 ≤ gC.toInt) (hC4 : gC.toInt ≤ 400) (hT : gBd 400 0 255 gT) (hP : gP.toInt = P) (hP0 : 0 ≤ P) (hP4 : P ≤ 400) (hc0 : 0 ≤ a1.toInt) (hc5 : a1.toInt ≤ 5) (k_a0 : t a0 = 2) : tMx (Z := (Int32) × (Nat → Int32)) l yX7_readNumber uvX7_readNumber 2 42 D (rF cI cL cC gC gP gT gR gm gs gg gL gQ gZ gE gV gU gN) (fun z => (rF cI cL cC gC z.1 gT z.2 gm gs gg gL gQ gZ gE gV gU gN)) t cI cL cC [.ref a0, .int a1] vTR (xI (fun r (z : (Int32) × (Nat → Int32)) => (r = 1 ∧ numC (byT gT gC) P z.1.toInt gR z.2 a1.toInt.toNat ∧ 0 ≤ z.1.toInt ∧ z.1.toInt ≤ 400) ∨ (r = 0 ∧ noNum (byT gT gC) P ∧ 0 ≤ z.1.toInt ∧ z.1.toInt ≤ 400))) := by
  refine tMx.ofW (cc := cX7_readNumber) (maxL := 4) (ret := (some .boolean)) (by decide) rfl (Nat.le_of_ble_eq_true rfl) ?_
  intro p e s m below meth c hx hb hr hml hown hts hlk H locs hG hK hE hS ls hl
  have hl : lv_has ls 4 [(0, .ref a0), (1, .int a1)] := hl
  have in7 : ∀ w ∈ wsX70, w ∈ uvX7_readNumber := fun w h => List.mem_cons_of_mem _ (List.mem_append_right _ h)
  refine lv_aload_n hx hb dX7_readNumber_0 rfl (lv_at hl 0 rfl) ?_
  obtain ⟨r_1, r_3, at_5, h_2, h_4⟩ := rF_o2 hG k_a0
  refine tx_calli (W.runV (As := []) (rest := []) ⟨hx, hb, hml, hown, hts⟩ (v_X7_nextByte l D t cI cL cC gC gP gT gR gm gs gg gL gQ gZ gE gV gU gN a0 P uq (by omega) (by omega) hT (by omega) (by omega) (by omega) k_a0) (cwV 0 hts gu_vX7_readNumber_vX7_nextByte_48 rfl rfl rfl (by decide +kernel) ⟨Nat.le_of_ble_eq_true rfl, Nat.le_of_ble_eq_true rfl⟩) (tP_V hG hE at_5 rfl) rfl rfl hl.1 rfl (lv_room (Nat.le_of_ble_eq_true rfl)) dX7_readNumber_1 ⟨Nat.le_of_ble_eq_true rfl, Nat.le_of_ble_eq_true rfl⟩) hS (wrL_sub (by decide)) (fun r_6 gP_10 H locs hp_7 hG hS o_8 => ?_)
  replace hG : tG D (rF cI cL cC gC gP_10 gT gR gm gs gg gL gQ gZ gE gV gU gN) t H := hG
  have hp_7 : r_6.toInt = byT gT gC P ∧ ((gP_10.toInt = P + 1 ∧ P < gC.toInt) ∨ (gP_10.toInt = P ∧ gC.toInt ≤ P ∧ r_6.toInt = -1)) ∧ -1 ≤ r_6.toInt ∧ r_6.toInt ≤ 255 ∧ 0 ≤ gP_10.toInt ∧ gP_10.toInt ≤ 400 := hp_7
  obtain ⟨p_11, p_12, p_13, p_14, p_15, p_16⟩ := hp_7
  refine lv_bipush (v := 44) hx hb dX7_readNumber_4 (by decide) ?_
  refine lv_icmp_eq (tgt := 11) hx hb dX7_readNumber_6 (by decide) (fun c_17 => ?_) (fun c_17 => ?_)
  · skip
    have c_17 : r_6.toInt = 44 := q_eq c_17
    have h44 : byT gT gC P = 44 := by omega
    refine lv_iconst (v := 0) hx hb dX7_readNumber_11 (by decide) ?_
    refine lv_istore_n (lv' := [(2, .int 0), (0, .ref a0), (1, .int a1)]) hx hb dX7_readNumber_12 rfl hl (by decide) rfl (fun ls hl => ?_)
    refine lv_iconst (v := 0) hx hb dX7_readNumber_13 (by decide) ?_
    refine lv_pc (pc2 := 14) rfl ?_
    refine lv_istore_n (lv' := [(3, .int 0), (2, .int 0), (0, .ref a0), (1, .int a1)]) hx hb dX7_readNumber_14 rfl hl (by decide) rfl (fun ls hl => ?_)
    refine lv_pc (pc2 := 15) rfl ?_
    refine lp_gen (fun WW18 hWW18 => ?_)
    have kx18 : ∀ (yf : Int32) (yn : Int32) (p1 : Int32) (H1 : Heap) (locs1 : List Loc) (ls1 : Array Slot), (0 ≤ yf.toInt) → (yf.toInt ≤ 7) → (p1.toInt = P + 1 + yf.toInt) → (figs (byT gT gC) (P + 1) yf.toInt) → (yn = vlB (byT gT gC) (P + 1) yf.toInt.toNat) → (0 ≤ p1.toInt) → (p1.toInt ≤ 400) → (yf.toInt = 7 ∨ ¬ dgB (byT gT gC (P + 1 + yf.toInt))) → tG D (rF cI cL cC gC p1 gT gR gm gs gg gL gQ gZ gE gV gU gN) t H1 → tF t vTR s.heap H1 locs1 → lv_has ls1 4 [(3, .int yf), (2, .int yn), (0, .ref a0), (1, .int a1)] → WW18 H1 locs1 (F0 m 47 ls1 []) := by
      intro yf yn p1 H locs ls v18_0 v18_1 v18_2 v18_3 v18_4 v18_5 v18_6 xf18_0 hG hS hl
      refine (hWW18 _ _ _).mpr ?_
      refine lv_aload_n hx hb dX7_readNumber_47 rfl (lv_at hl 2 rfl) ?_
      obtain ⟨r_19, r_21, at_23, h_20, h_22⟩ := rF_o2 hG k_a0
      refine va_get (D := D) (ci := 6) (v := .ref r_21) (C := RX7) (T := TX7) (N := 4) hx hb hts in7 hown hK (va_one at_23) 0 rfl rfl 1 (by decide) (hts (.fieldLink RX7 15 "RiverModel$Text" "row" "[I") (List.mem_of_getElem? (i := 5) rfl)) (fun _ h9 => h9) rfl dX7_readNumber_48 ?_
      refine lv_iload_n hx hb dX7_readNumber_51 rfl (lv_at hl 3 rfl) ?_
      refine lv_iload_n hx hb dX7_readNumber_52 rfl (lv_at hl 1 rfl) ?_
      have at_24 := rF_o11 hG h_22
      have b_25 : vp_in a1 6 := (q_in (by omega) (by omega))
      obtain ⟨q_26, eq_26⟩ : ∃ q : Nat → Int32, q = upd gR a1.toNatClampNeg yn := ⟨_, rfl⟩
      refine ty_iast (F2 := (rF cI cL cC gC p1 gT q_26 gm gs gg gL gQ gZ gE gV gU gN)) hx hb hK hG hS 0 at_24 (by rw [h_22]; rfl) rfl b_25 (by rw [h_22]; show _ = _; rw [eq_26]) (fun hG b hb h0 => by obtain ⟨e, g1, g2⟩ := hG b h0; exact ⟨e, g1, rF_gR (fun h => hb (uq b r_21 (h.trans h_22.symm) h0)) g2⟩) dX7_readNumber_53 (fun H locs hG hS at_27 o_28 => ?_)
      have at_23 := va_at.keptK at_23 o_28 h_22 k_a0 rfl
      refine lv_iload_n hx hb dX7_readNumber_54 rfl (lv_at hl 0 rfl) ?_
      refine lv_if_le (tgt := 62) hx hb dX7_readNumber_55 (by decide) (fun c_29 => ?_) (fun c_29 => ?_)
      · skip
        have c_29 : yf.toInt ≤ 0 := q_le c_29
        refine lv_pc (pc2 := 62) rfl ?_
        refine lv_iconst (v := 0) hx hb dX7_readNumber_62 (by decide) ?_
        have zi_0 : (0 : Int32).toInt = 0 := by decide
        exact tx_zret (z := (p1, q_26)) hx hb hr hlk rfl hG hS (Or.inr ⟨rfl, (by show noNum (byT gT gC) P; exact noNum.ofS xf18_0 (by omega)), (by show 0 ≤ p1.toInt; omega), (by show p1.toInt ≤ 400; omega)⟩) dX7_readNumber_63
      · skip
        have c_29 : 0 < yf.toInt := q_nle c_29
        refine lv_iconst (v := 1) hx hb dX7_readNumber_58 (by decide) ?_
        refine lv_goto (tgt := 63) hx hb dX7_readNumber_59 (by decide) ?_
        have zi_1 : (1 : Int32).toInt = 1 := by decide
        exact tx_zret (z := (p1, q_26)) hx hb hr hlk rfl hG hS (Or.inl ⟨rfl, (by show numC (byT gT gC) P p1.toInt gR q_26 a1.toInt.toNat; exact numC.of (d := yf.toInt) h44 v18_3 (by omega) (by omega) (by omega) (by rw [v18_2]; exact xf18_0) v18_4 eq_26), (by show 0 ≤ p1.toInt; omega), (by show p1.toInt ≤ 400; omega)⟩) dX7_readNumber_63
    have lp18 : ∀ (kk18 : Nat) (yf : Int32) (yn : Int32) (p1 : Int32) (H1 : Heap) (locs1 : List Loc) (ls1 : Array Slot), 7 - yf.toInt ≤ (kk18 : Int) → (0 ≤ yf.toInt) → (yf.toInt ≤ 7) → (p1.toInt = P + 1 + yf.toInt) → (figs (byT gT gC) (P + 1) yf.toInt) → (yn = vlB (byT gT gC) (P + 1) yf.toInt.toNat) → (0 ≤ p1.toInt) → (p1.toInt ≤ 400) → tG D (rF cI cL cC gC p1 gT gR gm gs gg gL gQ gZ gE gV gU gN) t H1 → tF t vTR s.heap H1 locs1 → lv_has ls1 4 [(3, .int yf), (2, .int yn), (0, .ref a0), (1, .int a1)] → WW18 H1 locs1 (F0 m 15 ls1 []) := by
      intro kk18
      induction kk18 with
      | zero =>
        intro yf yn p1 H locs ls hk18 v18_0 v18_1 v18_2 v18_3 v18_4 v18_5 v18_6 hG hS hl
        refine (hWW18 _ _ _).mpr ?_
        refine lv_iload_n hx hb dX7_readNumber_15 rfl (lv_at hl 0 rfl) ?_
        refine lv_bipush (v := 7) hx hb dX7_readNumber_16 (by decide) ?_
        refine lv_icmp_ge (tgt := 47) hx hb dX7_readNumber_18 (by decide) (fun c_30 => ?_) (fun c_30 => ?_)
        · skip
          have c_30 : 7 ≤ yf.toInt := q_le c_30
          exact (hWW18 _ _ _).mp (kx18 yf yn p1 H locs ls v18_0 v18_1 v18_2 v18_3 v18_4 v18_5 v18_6 (Or.inl (by omega)) hG hS (lv_sub hl [0, 1, 2, 3] rfl))
        · skip
          have c_30 : yf.toInt < 7 := q_nle c_30
          exfalso; omega
      | succ kk18 ih18 =>
        intro yf yn p1 H locs ls hk18 v18_0 v18_1 v18_2 v18_3 v18_4 v18_5 v18_6 hG hS hl
        refine (hWW18 _ _ _).mpr ?_
        refine lv_pc (pc2 := 15) rfl ?_
        refine lv_iload_n hx hb dX7_readNumber_15 rfl (lv_at hl 0 rfl) ?_
        refine lv_bipush (v := 7) hx hb dX7_readNumber_16 (by decide) ?_
        refine lv_icmp_ge (tgt := 47) hx hb dX7_readNumber_18 (by decide) (fun c_31 => ?_) (fun c_31 => ?_)
        · skip
          have c_31 : 7 ≤ yf.toInt := q_le c_31
          exact (hWW18 _ _ _).mp (kx18 yf yn p1 H locs ls v18_0 v18_1 v18_2 v18_3 v18_4 v18_5 v18_6 (Or.inl (by omega)) hG hS (lv_sub hl [0, 1, 2, 3] rfl))
        · skip
          have c_31 : yf.toInt < 7 := q_nle c_31
          refine lv_aload_n hx hb dX7_readNumber_21 rfl (lv_at hl 2 rfl) ?_
          obtain ⟨r_32, r_34, at_36, h_33, h_35⟩ := rF_o2 hG k_a0
          refine ty_calli (W.runV (As := []) (rest := []) ⟨hx, hb, hml, hown, hts⟩ (v_X7_isAtFigure l D t cI cL cC gC p1 gT gR gm gs gg gL gQ gZ gE gV gU gN a0 (P + 1 + yf.toInt) uq (by omega) (by omega) hT (by omega) (by omega) (by omega) k_a0) (cwV 0 hts gu_vX7_readNumber_vX7_isAtFigure_71 rfl rfl rfl (by decide +kernel) ⟨Nat.le_of_ble_eq_true rfl, Nat.le_of_ble_eq_true rfl⟩) (tP_V hG hE at_36 rfl) rfl rfl hl.1 rfl (lv_room (Nat.le_of_ble_eq_true rfl)) dX7_readNumber_22 ⟨Nat.le_of_ble_eq_true rfl, Nat.le_of_ble_eq_true rfl⟩) hS (fun k h => by simp [wr0] at h) (fun r_37 H locs hp_38 hG hS o_39 => ?_)
          have at_36 := va_at.keptC at_36 o_39 k_a0 rfl
          have hp_38 : (r_37 = 1 ∧ dgB (byT gT gC (P + 1 + yf.toInt)) ∧ (P + 1 + yf.toInt) < gC.toInt) ∨ (r_37 = 0 ∧ ¬ dgB (byT gT gC (P + 1 + yf.toInt))) := hp_38
          rcases hp_38 with ⟨rfl, p_41, p_42⟩ | ⟨rfl, p_43⟩
          · skip
            refine lv_if_eq (tgt := 47) hx hb dX7_readNumber_25 (by decide) (fun q => absurd q (by decide)) (fun _ => ?_)
            refine lv_iload_n hx hb dX7_readNumber_28 rfl (lv_at hl 1 rfl) ?_
            refine lv_bipush (v := 10) hx hb dX7_readNumber_29 (by decide) ?_
            refine lv_pc (pc2 := 31) rfl ?_
            refine lv_imul hx hb dX7_readNumber_31 ?_
            refine lv_topi (fun x_44 e_45 => ?_)
            refine lv_aload_n hx hb dX7_readNumber_32 rfl (lv_at hl 2 rfl) ?_
            refine tx_calli (W.runV (As := []) (rest := [.int x_44]) ⟨hx, hb, hml, hown, hts⟩ (v_X7_nextByte l D t cI cL cC gC p1 gT gR gm gs gg gL gQ gZ gE gV gU gN a0 (P + 1 + yf.toInt) uq (by omega) (by omega) hT (by omega) (by omega) (by omega) k_a0) (cwV 0 hts gu_vX7_readNumber_vX7_nextByte_48 rfl rfl rfl (by decide +kernel) ⟨Nat.le_of_ble_eq_true rfl, Nat.le_of_ble_eq_true rfl⟩) (tP_V hG hE at_36 rfl) rfl rfl hl.1 rfl (lv_room (Nat.le_of_ble_eq_true rfl)) dX7_readNumber_33 ⟨Nat.le_of_ble_eq_true rfl, Nat.le_of_ble_eq_true rfl⟩) hS (wrL_sub (by decide)) (fun r_46 gP_50 H locs hp_47 hG hS o_48 => ?_)
            replace hG : tG D (rF cI cL cC gC gP_50 gT gR gm gs gg gL gQ gZ gE gV gU gN) t H := hG
            have hp_47 : r_46.toInt = byT gT gC (P + 1 + yf.toInt) ∧ ((gP_50.toInt = (P + 1 + yf.toInt) + 1 ∧ (P + 1 + yf.toInt) < gC.toInt) ∨ (gP_50.toInt = (P + 1 + yf.toInt) ∧ gC.toInt ≤ (P + 1 + yf.toInt) ∧ r_46.toInt = -1)) ∧ -1 ≤ r_46.toInt ∧ r_46.toInt ≤ 255 ∧ 0 ≤ gP_50.toInt ∧ gP_50.toInt ≤ 400 := hp_47
            obtain ⟨p_51, p_52, p_53, p_54, p_55, p_56⟩ := hp_47
            refine lv_iadd hx hb dX7_readNumber_36 ?_
            refine lv_topi (fun x_57 e_58 => ?_)
            refine lv_bipush (v := 48) hx hb dX7_readNumber_37 (by decide) ?_
            refine lv_isub hx hb dX7_readNumber_39 ?_
            refine lv_topi (fun x_59 e_60 => ?_)
            refine lv_istore_n (lv' := [(2, .int x_59), (3, .int yf), (0, .ref a0), (1, .int a1)]) hx hb dX7_readNumber_40 rfl hl (by decide) rfl (fun ls hl => ?_)
            obtain ⟨x_61, e_62⟩ : ∃ y : Int32, y = yf + Int32.ofInt 1 := ⟨_, rfl⟩
            have i_x_61 : x_61.toInt = yf.toInt + 1 := by rw [e_62, show Int32.ofInt 1 = 1 by decide]; exact (q_add (by rw [show (1 : Int32).toInt = 1 by decide]; omega) (by rw [show (1 : Int32).toInt = 1 by decide]; omega)).trans (by rw [show (1 : Int32).toInt = 1 by decide])
            refine lv_iinc (v := x_61) (lv' := [(3, .int x_61), (2, .int x_59), (0, .ref a0), (1, .int a1)]) hx hb dX7_readNumber_41 hl (k := 1) rfl e_62.symm (by decide) rfl (fun ls hl => ?_)
            refine lv_pc (pc2 := 44) rfl ?_
            refine lv_goto (tgt := 15) hx hb dX7_readNumber_44 (by decide) ?_
            exact (hWW18 _ _ _).mp (ih18 x_61 x_59 gP_50 H locs ls (by omega) (by omega) (by omega) (by omega) (figs.step v18_3 p_41 (by omega)) (vlB.step (by omega) v18_4 p_51 (by omega) (by rw [e_60, e_58, e_45])) (by omega) (by omega) hG hS (lv_sub hl [0, 1, 2, 3] rfl))
          · skip
            refine lv_if_eq (tgt := 47) hx hb dX7_readNumber_25 (by decide) (fun _ => ?_) (fun q => absurd (by decide) q)
            exact (hWW18 _ _ _).mp (kx18 yf yn p1 H locs ls v18_0 v18_1 v18_2 v18_3 v18_4 v18_5 v18_6 (Or.inr p_43) hG hS (lv_sub hl [0, 1, 2, 3] rfl))
    have zi_0 : (0 : Int32).toInt = 0 := by decide
    exact lp18 (7 - (0 : Int32).toInt : Int).toNat 0 0 gP_10 H locs ls (by omega) (by omega) (by omega) (by omega) (by rw [zi_0]; exact figs.zero) (by rw [zi_0]; rfl) (by omega) (by omega) hG hS (lv_sub hl [0, 1, 2, 3] rfl)
  · skip
    have c_17 : r_6.toInt ≠ 44 := q_ne c_17
    refine lv_iconst (v := 0) hx hb dX7_readNumber_9 (by decide) ?_
    have zi_0 : (0 : Int32).toInt = 0 := by decide
    exact tx_zret (z := (gP_10, gR)) hx hb hr hlk rfl hG hS (Or.inr ⟨rfl, (by show noNum (byT gT gC) P; exact noNum.of44 (by omega)), (by show 0 ≤ gP_10.toInt; omega), (by show gP_10.toInt ≤ 400; omega)⟩) dX7_readNumber_10

def uvX7_readItem : List Cond := .code yX7_readItem cX7_readItem 5 (some .boolean) :: ([.fieldLink RX7 15 "RiverModel$Text" "row" "[I", .methodLink RX7 42 yJ7_fill_53178, .static yJ7_fill_53178, .initialized RJ7, .methodLink RX7 48 yX7_nextByte, .instanceMethod yX7_nextByte, .selects RX7 yX7_nextByte yX7_nextByte, .initialized RX7, .methodLink RX7 52 yX2_namesOf, .static yX2_namesOf, .initialized RX2, .methodLink RX7 62 yX2_numbersOf, .static yX2_numbersOf, .methodLink RX7 65 yX7_readNumber, .instanceMethod yX7_readNumber, .selects RX7 yX7_readNumber yX7_readNumber, .methodLink RX7 58 yX7_readName, .instanceMethod yX7_readName, .selects RX7 yX7_readName yX7_readName, .code yJ7_fill_53178 cJ7_fill_53178 4 none, .code yX7_nextByte cX7_nextByte 1 (some .int), .fieldLink RX7 22 "RiverModel$Text" "at" "I", .fieldLink RX7 18 "RiverModel$Text" "length" "I", .fieldLink RX7 9 "RiverModel$Text" "bytes" "[I", .code yX2_namesOf cX2_namesOf 1 (some .int), .code yX2_numbersOf cX2_numbersOf 1 (some .int), .code yX7_readNumber cX7_readNumber 4 (some .boolean), .methodLink RX7 71 yX7_isAtFigure, .instanceMethod yX7_isAtFigure, .selects RX7 yX7_isAtFigure yX7_isAtFigure, .code yX7_isAtFigure cX7_isAtFigure 1 (some .boolean), .initialized RX9, .static yX9_isOutside, .code yX9_isOutside cX9_isOutside 3 (some .boolean), .code yX7_readName cX7_readName 3 (some .boolean), .static yX9_isNoStore, .code yX9_isNoStore cX9_isNoStore 1 (some .boolean)] ++ wsX70)
set_option maxRecDepth 20000 in
theorem gu_vX7_readItem_J7_fill_53178_42 : GoodIn uvX7_readItem (va_wsS RX7 42 yJ7_fill_53178 wsJ7_fill_53178) := goodIn_r _ [2, 3, 4, 20] rfl (by decide +kernel)
set_option maxRecDepth 20000 in
theorem gu_vX7_readItem_vX7_nextByte_48 : GoodIn uvX7_readItem (wsV RX7 48 RX7 yX7_nextByte uvX7_nextByte) := goodIn_r _ [5, 6, 7, 8, 21, 22, 23, 24, 38, 39, 40, 41] rfl (by decide +kernel)
set_option maxRecDepth 20000 in
theorem gu_vX7_readItem_aX2_namesOf_52 : GoodIn uvX7_readItem (va_wsS RX7 52 yX2_namesOf uaX2_namesOf) := goodIn_r _ [9, 10, 11, 25] rfl (by decide +kernel)
set_option maxRecDepth 20000 in
theorem gu_vX7_readItem_aX2_numbersOf_62 : GoodIn uvX7_readItem (va_wsS RX7 62 yX2_numbersOf uaX2_numbersOf) := goodIn_r _ [12, 13, 11, 26] rfl (by decide +kernel)
set_option maxRecDepth 20000 in
theorem gu_vX7_readItem_vX7_readNumber_65 : GoodIn uvX7_readItem (wsV RX7 65 RX7 yX7_readNumber uvX7_readNumber) := goodIn_r _ [14, 15, 16, 8, 27, 5, 6, 7, 8, 1, 28, 29, 30, 21, 22, 23, 24, 31, 32, 33, 34, 38, 39, 40, 41] rfl (by decide +kernel)
set_option maxRecDepth 20000 in
theorem gu_vX7_readItem_vX7_readName_58 : GoodIn uvX7_readItem (wsV RX7 58 RX7 yX7_readName uvX7_readName) := goodIn_r _ [17, 18, 19, 8, 35, 5, 6, 7, 8, 1, 32, 36, 21, 22, 23, 24, 37, 38, 39, 40, 41] rfl (by decide +kernel)
set_option maxHeartbeats 4000000 in
set_option maxRecDepth 100000 in
theorem v_X7_readItem (l : Launch) (D : va_G) (t : Nat → Nat) (cI cL cC : ClassId) (gC : Int32) (gP : Int32) (gT : Nat → Int32) (gR : Nat → Int32) (gm : Int32) (gs : Int32) (gg : Int32) (gL : Nat → Int32) (gQ : Nat → Int32) (gZ : Nat → Int32) (gE : Int32) (gV : Nat → Int32) (gU : Nat → Int32) (gN : Nat → Int32) (a0 : Nat) (P : Int) (uq : ∀ b c : Nat, t b = t c → t b ≠ 0 → b = c) (hC0 : 0 ≤ gC.toInt) (hC4 : gC.toInt ≤ 400) (hT : gBd 400 0 255 gT) (hP : gP.toInt = P) (hP0 : 0 ≤ P) (hP4 : P ≤ 400) (k_a0 : t a0 = 2) : tMx (Z := (Int32) × (Nat → Int32)) l yX7_readItem uvX7_readItem 3 65 D (rF cI cL cC gC gP gT gR gm gs gg gL gQ gZ gE gV gU gN) (fun z => (rF cI cL cC gC z.1 gT z.2 gm gs gg gL gQ gZ gE gV gU gN)) t cI cL cC [.ref a0] vTR (xI (fun r (z : (Int32) × (Nat → Int32)) => (r = 1 ∧ itemAt (byT gT gC) P (z.2 0) (z.2 1) (z.2 2) (z.2 3) (z.2 4) (z.2 5) z.1.toInt ∧ 0 ≤ z.1.toInt ∧ z.1.toInt ≤ 400) ∨ (r = 0 ∧ noItem (byT gT gC) P ∧ 0 ≤ z.1.toInt ∧ z.1.toInt ≤ 400))) := by
  refine tMx.ofW (cc := cX7_readItem) (maxL := 5) (ret := (some .boolean)) (by decide) rfl (Nat.le_of_ble_eq_true rfl) ?_
  intro p e s m below meth c hx hb hr hml hown hts hlk H locs hG hK hE hS ls hl
  have hl : lv_has ls 5 [(0, .ref a0)] := hl
  have in7 : ∀ w ∈ wsX70, w ∈ uvX7_readItem := fun w h => List.mem_cons_of_mem _ (List.mem_append_right _ h)
  have hb3 := nbO_le (byT gT gC P)
  have hn2 := nmO_le (byT gT gC P)
  have hb0 := nbO_0 (byT gT gC P)
  have hn0 := nmO_0 (byT gT gC P)
  refine lv_aload_n hx hb dX7_readItem_0 rfl (lv_at hl 0 rfl) ?_
  obtain ⟨r_1, r_3, at_5, h_2, h_4⟩ := rF_o2 hG k_a0
  refine va_get (D := D) (ci := 6) (v := .ref r_3) (C := RX7) (T := TX7) (N := 4) hx hb hts in7 hown hK (va_one at_5) 0 rfl rfl 1 (by decide) (hts (.fieldLink RX7 15 "RiverModel$Text" "row" "[I") (List.mem_of_getElem? (i := 1) rfl)) (fun _ h9 => h9) rfl dX7_readItem_1 ?_
  refine lv_bipush (v := (-4)) hx hb dX7_readItem_4 (by decide) ?_
  have at_6 := rF_o11 hG h_4
  refine nw_row (W.runS (As := [.ref r_3, .int (-4)]) (rest := []) ⟨hx, hb, hml, hown, hts⟩ (c_fillI l D cI cL cC r_3 6 gR (-4) (by decide)) (va_cwS 2 hts gu_vX7_readItem_J7_fill_53178_42 rfl rfl rfl (by decide +kernel) ⟨Nat.le_of_ble_eq_true rfl, Nat.le_of_ble_eq_true rfl⟩) (rP_S at_6 hE) rfl rfl hl.1 rfl (lv_room (Nat.le_of_ble_eq_true rfl)) dX7_readItem_6 ⟨Nat.le_of_ble_eq_true rfl, Nat.le_of_ble_eq_true rfl⟩) (fun H L ee hp at_12 hz_10 o_8 hL_11 => ?_)
  obtain ⟨g_7, rfl, hg_9⟩ := hp
  replace hG : tG D (rF cI cL cC gC gP gT g_7 gm gs gg gL gQ gZ gE gV gU gN) t H := tG.setx hG at_12 (by rw [h_4]; exact rfl) (fun hG b hb h0 => by obtain ⟨e, g1, g2⟩ := hG b h0; exact ⟨e, g1, rF_gR (fun h => hb (uq b r_3 (h.trans h_4.symm) h0)) g2⟩) o_8
  replace hS := tF.row hS hz_10 o_8 hL_11 (by rw [h_4]; rfl)
  generalize _ ++ L = locs at hS ⊢
  have at_5 := va_at.keptK at_5 o_8 h_4 k_a0 rfl
  refine lv_aload_n hx hb dX7_readItem_9 rfl (lv_at hl 0 rfl) ?_
  refine tx_calli (W.runV (As := []) (rest := []) ⟨hx, hb, hml, hown, hts⟩ (v_X7_nextByte l D t cI cL cC gC gP gT g_7 gm gs gg gL gQ gZ gE gV gU gN a0 P uq (by omega) (by omega) hT (by omega) (by omega) (by omega) k_a0) (cwV 0 hts gu_vX7_readItem_vX7_nextByte_48 rfl rfl rfl (by decide +kernel) ⟨Nat.le_of_ble_eq_true rfl, Nat.le_of_ble_eq_true rfl⟩) (tP_V hG hE at_5 rfl) rfl rfl hl.1 rfl (lv_room (Nat.le_of_ble_eq_true rfl)) dX7_readItem_10 ⟨Nat.le_of_ble_eq_true rfl, Nat.le_of_ble_eq_true rfl⟩) hS (wrL_sub (by decide)) (fun r_13 gP_17 H locs hp_14 hG hS o_15 => ?_)
  replace hG : tG D (rF cI cL cC gC gP_17 gT g_7 gm gs gg gL gQ gZ gE gV gU gN) t H := hG
  have hp_14 : r_13.toInt = byT gT gC P ∧ ((gP_17.toInt = P + 1 ∧ P < gC.toInt) ∨ (gP_17.toInt = P ∧ gC.toInt ≤ P ∧ r_13.toInt = -1)) ∧ -1 ≤ r_13.toInt ∧ r_13.toInt ≤ 255 ∧ 0 ≤ gP_17.toInt ∧ gP_17.toInt ≤ 400 := hp_14
  obtain ⟨p_18, p_19, p_20, p_21, p_22, p_23⟩ := hp_14
  refine lv_istore_n (lv' := [(1, .int r_13), (0, .ref a0)]) hx hb dX7_readItem_13 rfl hl (by decide) rfl (fun ls hl => ?_)
  refine lv_pc (pc2 := 14) rfl ?_
  refine lv_aload_n hx hb dX7_readItem_14 rfl (lv_at hl 1 rfl) ?_
  obtain ⟨r_24, r_26, at_28, h_25, h_27⟩ := rF_o2 hG k_a0
  refine va_get (D := D) (ci := 6) (v := .ref r_26) (C := RX7) (T := TX7) (N := 4) hx hb hts in7 hown hK (va_one at_28) 0 rfl rfl 1 (by decide) (hts (.fieldLink RX7 15 "RiverModel$Text" "row" "[I") (List.mem_of_getElem? (i := 1) rfl)) (fun _ h9 => h9) rfl dX7_readItem_15 ?_
  refine lv_iconst (v := 0) hx hb dX7_readItem_18 (by decide) ?_
  refine lv_iload_n hx hb dX7_readItem_19 rfl (lv_at hl 0 rfl) ?_
  have at_29 := rF_o11 hG h_27
  have b_30 : vp_in 0 6 := (q_in (by decide) (by decide))
  have zi_0 : (0 : Int32).toInt = 0 := by decide
  obtain ⟨q_31, eq_31⟩ : ∃ q : Nat → Int32, q = upd g_7 (0 : Int32).toNatClampNeg r_13 := ⟨_, rfl⟩
  refine ty_iast (F2 := (rF cI cL cC gC gP_17 gT q_31 gm gs gg gL gQ gZ gE gV gU gN)) hx hb hK hG hS 0 at_29 (by rw [h_27]; rfl) rfl b_30 (by rw [h_27]; show _ = _; rw [eq_31]) (fun hG b hb h0 => by obtain ⟨e, g1, g2⟩ := hG b h0; exact ⟨e, g1, rF_gR (fun h => hb (uq b r_26 (h.trans h_27.symm) h0)) g2⟩) dX7_readItem_20 (fun H locs hG hS at_32 o_33 => ?_)
  have at_28 := va_at.keptK at_28 o_33 h_27 k_a0 rfl
  refine lv_iload_n hx hb dX7_readItem_21 rfl (lv_at hl 0 rfl) ?_
  refine ty_calli (W.runS (As := [.int r_13]) (rest := []) ⟨hx, hb, hml, hown, hts⟩ (a_X2_namesOf l D t cI cL cC (rF cI cL cC gC gP_17 gT q_31 gm gs gg gL gQ gZ gE gV gU gN) r_13 (byT gT gC P) (by omega) ) (va_cwS 1 hts gu_vX7_readItem_aX2_namesOf_52 rfl rfl rfl (by decide +kernel) ⟨Nat.le_of_ble_eq_true rfl, Nat.le_of_ble_eq_true rfl⟩) (tP_S hG hE) rfl rfl hl.1 rfl (lv_room (Nat.le_of_ble_eq_true rfl)) dX7_readItem_22 ⟨Nat.le_of_ble_eq_true rfl, Nat.le_of_ble_eq_true rfl⟩) hS (fun k h => by simp [wr0] at h) (fun r_34 H locs hp_35 hG hS o_36 => ?_)
  have at_28 := va_at.keptC at_28 o_36 k_a0 rfl
  have hp_35 : r_34.toInt = nmO (byT gT gC P) := hp_35
  have p_38 := hp_35
  refine lv_istore_n (lv' := [(2, .int r_34), (1, .int r_13), (0, .ref a0)]) hx hb dX7_readItem_25 rfl hl (by decide) rfl (fun ls hl => ?_)
  refine lv_pc (pc2 := 26) rfl ?_
  refine lv_iconst (v := 0) hx hb dX7_readItem_26 (by decide) ?_
  refine lv_istore_n (lv' := [(3, .int 0), (2, .int r_34), (1, .int r_13), (0, .ref a0)]) hx hb dX7_readItem_27 rfl hl (by decide) rfl (fun ls hl => ?_)
  refine lv_pc (pc2 := 28) rfl ?_
  refine lp_gen (fun WW39 hWW39 => ?_)
  have kx39 : ∀ (yk : Int32) (p1 : Int32) (r1 : Nat → Int32) (H1 : Heap) (locs1 : List Loc) (ls1 : Array Slot), (0 ≤ yk.toInt) → (yk.toInt ≤ 2) → (yk.toInt ≤ nmO (byT gT gC P)) → (nmsI (byT gT gC) P yk.toInt p1.toInt r1) → (0 ≤ p1.toInt) → (p1.toInt ≤ 400) → (nmO (byT gT gC P) ≤ yk.toInt) → tG D (rF cI cL cC gC p1 gT r1 gm gs gg gL gQ gZ gE gV gU gN) t H1 → tF t vTR s.heap H1 locs1 → lv_has ls1 5 [(3, .int yk), (2, .int r_34), (1, .int r_13), (0, .ref a0)] → WW39 H1 locs1 (F0 m 51 ls1 []) := by
    intro yk p1 r1 H locs ls v39_0 v39_1 v39_2 v39_3 v39_4 v39_5 xf39_0 hG hS hl
    refine (hWW39 _ _ _).mpr ?_
    have hkk : yk.toInt = nmO (byT gT gC P) := by omega
    have hns : nmsI (byT gT gC) P (nmO (byT gT gC P)) p1.toInt r1 := hkk ▸ v39_3
    refine lv_iload_n hx hb dX7_readItem_51 rfl (lv_at hl 2 rfl) ?_
    refine ty_calli (W.runS (As := [.int r_13]) (rest := []) ⟨hx, hb, hml, hown, hts⟩ (a_X2_numbersOf l D t cI cL cC (rF cI cL cC gC p1 gT r1 gm gs gg gL gQ gZ gE gV gU gN) r_13 (byT gT gC P) (by omega) ) (va_cwS 1 hts gu_vX7_readItem_aX2_numbersOf_62 rfl rfl rfl (by decide +kernel) ⟨Nat.le_of_ble_eq_true rfl, Nat.le_of_ble_eq_true rfl⟩) (tP_S hG hE) rfl rfl hl.1 rfl (lv_room (Nat.le_of_ble_eq_true rfl)) dX7_readItem_52 ⟨Nat.le_of_ble_eq_true rfl, Nat.le_of_ble_eq_true rfl⟩) hS (fun k h => by simp [wr0] at h) (fun r_40 H locs hp_41 hG hS o_42 => ?_)
    have hp_41 : r_40.toInt = nbO (byT gT gC P) := hp_41
    have p_44 := hp_41
    refine lv_istore_n (lv' := [(3, .int r_40), (2, .int r_34), (1, .int r_13), (0, .ref a0)]) hx hb dX7_readItem_55 rfl hl (by decide) rfl (fun ls hl => ?_)
    refine lv_iconst (v := 0) hx hb dX7_readItem_56 (by decide) ?_
    refine lv_istore (lv' := [(4, .int 0), (3, .int r_40), (2, .int r_34), (1, .int r_13), (0, .ref a0)]) hx hb dX7_readItem_57 hl (by decide) rfl (fun ls hl => ?_)
    refine lv_pc (pc2 := 59) rfl ?_
    refine lp_gen (fun WW45 hWW45 => ?_)
    have kx45 : ∀ (yj : Int32) (p2 : Int32) (r2 : Nat → Int32) (H1 : Heap) (locs1 : List Loc) (ls1 : Array Slot), (0 ≤ yj.toInt) → (yj.toInt ≤ nbO (byT gT gC P)) → (numsI (byT gT gC) P p1.toInt yj.toInt r2 p2.toInt) → (sm3 r1 r2) → (0 ≤ p2.toInt) → (p2.toInt ≤ 400) → (nbO (byT gT gC P) ≤ yj.toInt) → tG D (rF cI cL cC gC p2 gT r2 gm gs gg gL gQ gZ gE gV gU gN) t H1 → tF t vTR s.heap H1 locs1 → lv_has ls1 5 [(4, .int yj), (3, .int r_40), (2, .int r_34), (1, .int r_13), (0, .ref a0)] → WW45 H1 locs1 (F0 m 84 ls1 []) := by
      intro yj p2 r2 H locs ls v45_0 v45_1 v45_2 v45_3 v45_4 v45_5 xf45_0 hG hS hl
      refine (hWW45 _ _ _).mpr ?_
      refine lv_iload_n hx hb dX7_readItem_84 rfl (lv_at hl 2 rfl) ?_
      refine lv_pc (pc2 := 85) rfl ?_
      refine lv_if_le (tgt := 101) hx hb dX7_readItem_85 (by decide) (fun c_46 => ?_) (fun c_46 => ?_)
      · skip
        have c_46 : r_34.toInt ≤ 0 := q_le c_46
        refine lv_iconst (v := 0) hx hb dX7_readItem_101 (by decide) ?_
        exact tx_zret (z := (p2, r2)) hx hb hr hlk rfl hG hS (Or.inr ⟨rfl, (by show noItem (byT gT gC) P; exact itemNo.last hns v45_2 (by omega) (by omega)), (by show 0 ≤ p2.toInt; omega), (by show p2.toInt ≤ 400; omega)⟩) dX7_readItem_102
      · skip
        have c_46 : 0 < r_34.toInt := q_nle c_46
        refine lv_aload_n hx hb dX7_readItem_88 rfl (lv_at hl 4 rfl) ?_
        obtain ⟨r_47, r_49, at_51, h_48, h_50⟩ := rF_o2 hG k_a0
        refine tx_calli (W.runV (As := []) (rest := []) ⟨hx, hb, hml, hown, hts⟩ (v_X7_nextByte l D t cI cL cC gC p2 gT r2 gm gs gg gL gQ gZ gE gV gU gN a0 p2.toInt uq (by omega) (by omega) hT (by omega) (by omega) (by omega) k_a0) (cwV 0 hts gu_vX7_readItem_vX7_nextByte_48 rfl rfl rfl (by decide +kernel) ⟨Nat.le_of_ble_eq_true rfl, Nat.le_of_ble_eq_true rfl⟩) (tP_V hG hE at_51 rfl) rfl rfl hl.1 rfl (lv_room (Nat.le_of_ble_eq_true rfl)) dX7_readItem_89 ⟨Nat.le_of_ble_eq_true rfl, Nat.le_of_ble_eq_true rfl⟩) hS (wrL_sub (by decide)) (fun r_52 gP_56 H locs hp_53 hG hS o_54 => ?_)
        replace hG : tG D (rF cI cL cC gC gP_56 gT r2 gm gs gg gL gQ gZ gE gV gU gN) t H := hG
        have hp_53 : r_52.toInt = byT gT gC p2.toInt ∧ ((gP_56.toInt = p2.toInt + 1 ∧ p2.toInt < gC.toInt) ∨ (gP_56.toInt = p2.toInt ∧ gC.toInt ≤ p2.toInt ∧ r_52.toInt = -1)) ∧ -1 ≤ r_52.toInt ∧ r_52.toInt ≤ 255 ∧ 0 ≤ gP_56.toInt ∧ gP_56.toInt ≤ 400 := hp_53
        obtain ⟨p_57, p_58, p_59, p_60, p_61, p_62⟩ := hp_53
        refine lv_bipush (v := 59) hx hb dX7_readItem_92 (by decide) ?_
        refine lv_icmp_ne (tgt := 101) hx hb dX7_readItem_94 (by decide) (fun c_63 => ?_) (fun c_63 => ?_)
        · skip
          have c_63 : r_52.toInt ≠ 59 := q_ne c_63
          refine lv_iconst (v := 0) hx hb dX7_readItem_101 (by decide) ?_
          refine lv_pc (pc2 := 102) rfl ?_
          exact tx_zret (z := (gP_56, r2)) hx hb hr hlk rfl hG hS (Or.inr ⟨rfl, (by show noItem (byT gT gC) P; exact itemNo.last hns v45_2 (by omega) (by omega)), (by show 0 ≤ gP_56.toInt; omega), (by show gP_56.toInt ≤ 400; omega)⟩) dX7_readItem_102
        · skip
          have c_63 : r_52.toInt = 59 := q_eq c_63
          refine lv_iconst (v := 1) hx hb dX7_readItem_97 (by decide) ?_
          refine lv_goto (tgt := 102) hx hb dX7_readItem_98 (by decide) ?_
          have zi_1 : (1 : Int32).toInt = 1 := by decide
          exact tx_zret (z := (gP_56, r2)) hx hb hr hlk rfl hG hS (Or.inl ⟨rfl, (by show itemAt (byT gT gC) P (r2 0) (r2 1) (r2 2) (r2 3) (r2 4) (r2 5) gP_56.toInt; exact itemAt.ofI hns v45_2 v45_3 (by omega) (by omega) (by omega) (by omega)), (by show 0 ≤ gP_56.toInt; omega), (by show gP_56.toInt ≤ 400; omega)⟩) dX7_readItem_102
    have lp45 : ∀ (kk45 : Nat) (yj : Int32) (p2 : Int32) (r2 : Nat → Int32) (H1 : Heap) (locs1 : List Loc) (ls1 : Array Slot), 3 - yj.toInt ≤ (kk45 : Int) → (0 ≤ yj.toInt) → (yj.toInt ≤ nbO (byT gT gC P)) → (numsI (byT gT gC) P p1.toInt yj.toInt r2 p2.toInt) → (sm3 r1 r2) → (0 ≤ p2.toInt) → (p2.toInt ≤ 400) → tG D (rF cI cL cC gC p2 gT r2 gm gs gg gL gQ gZ gE gV gU gN) t H1 → tF t vTR s.heap H1 locs1 → lv_has ls1 5 [(4, .int yj), (3, .int r_40), (2, .int r_34), (1, .int r_13), (0, .ref a0)] → WW45 H1 locs1 (F0 m 59 ls1 []) := by
      intro kk45
      induction kk45 with
      | zero =>
        intro yj p2 r2 H locs ls hk45 v45_0 v45_1 v45_2 v45_3 v45_4 v45_5 hG hS hl
        refine (hWW45 _ _ _).mpr ?_
        refine lv_iload hx hb dX7_readItem_59 (lv_at hl 0 rfl) ?_
        refine lv_iload_n hx hb dX7_readItem_61 rfl (lv_at hl 1 rfl) ?_
        refine lv_icmp_ge (tgt := 84) hx hb dX7_readItem_62 (by decide) (fun c_64 => ?_) (fun c_64 => ?_)
        · skip
          have c_64 : r_40.toInt ≤ yj.toInt := q_le c_64
          exact (hWW45 _ _ _).mp (kx45 yj p2 r2 H locs ls v45_0 v45_1 v45_2 v45_3 v45_4 v45_5 (by omega) hG hS (lv_sub hl [0, 1, 2, 3, 4] rfl))
        · skip
          have c_64 : yj.toInt < r_40.toInt := q_nle c_64
          exfalso; omega
      | succ kk45 ih45 =>
        intro yj p2 r2 H locs ls hk45 v45_0 v45_1 v45_2 v45_3 v45_4 v45_5 hG hS hl
        refine (hWW45 _ _ _).mpr ?_
        refine lv_iload hx hb dX7_readItem_59 (lv_at hl 0 rfl) ?_
        refine lv_pc (pc2 := 61) rfl ?_
        refine lv_iload_n hx hb dX7_readItem_61 rfl (lv_at hl 1 rfl) ?_
        refine lv_icmp_ge (tgt := 84) hx hb dX7_readItem_62 (by decide) (fun c_65 => ?_) (fun c_65 => ?_)
        · skip
          have c_65 : r_40.toInt ≤ yj.toInt := q_le c_65
          exact (hWW45 _ _ _).mp (kx45 yj p2 r2 H locs ls v45_0 v45_1 v45_2 v45_3 v45_4 v45_5 (by omega) hG hS (lv_sub hl [0, 1, 2, 3, 4] rfl))
        · skip
          have c_65 : yj.toInt < r_40.toInt := q_nle c_65
          refine lv_aload_n hx hb dX7_readItem_65 rfl (lv_at hl 4 rfl) ?_
          refine lv_iconst (v := 3) hx hb dX7_readItem_66 (by decide) ?_
          refine lv_iload hx hb dX7_readItem_67 (lv_at hl 0 rfl) ?_
          refine lv_iadd hx hb dX7_readItem_69 ?_
          refine lv_topi (fun x_66 e_67 => ?_)
          have i_x_66 : x_66.toInt = 3 + yj.toInt := by rw [e_67]; exact (q_add (by rw [show (3 : Int32).toInt = 3 by decide]; omega) (by rw [show (3 : Int32).toInt = 3 by decide]; omega)).trans (by rw [show (3 : Int32).toInt = 3 by decide])
          obtain ⟨r_68, r_70, at_72, h_69, h_71⟩ := rF_o2 hG k_a0
          refine tx_calli (W.runV (As := [.int x_66]) (rest := []) ⟨hx, hb, hml, hown, hts⟩ (v_X7_readNumber l D t cI cL cC gC p2 gT r2 gm gs gg gL gQ gZ gE gV gU gN a0 x_66 p2.toInt uq (by omega) (by omega) hT (by omega) (by omega) (by omega) (by omega) (by omega) k_a0) (cwV 1 hts gu_vX7_readItem_vX7_readNumber_65 rfl rfl rfl (by decide +kernel) ⟨Nat.le_of_ble_eq_true rfl, Nat.le_of_ble_eq_true rfl⟩) (tP_V hG hE at_72 rfl) rfl rfl hl.1 rfl (lv_room (Nat.le_of_ble_eq_true rfl)) dX7_readItem_70 ⟨Nat.le_of_ble_eq_true rfl, Nat.le_of_ble_eq_true rfl⟩) hS (fun _ h => h) (fun r_73 zz_76 H locs hp_74 hG hS o_75 => ?_)
          obtain ⟨gP_77, gR_78⟩ := zz_76
          replace hG : tG D (rF cI cL cC gC gP_77 gT gR_78 gm gs gg gL gQ gZ gE gV gU gN) t H := hG
          have hp_74 : (r_73 = 1 ∧ numC (byT gT gC) p2.toInt gP_77.toInt r2 gR_78 x_66.toInt.toNat ∧ 0 ≤ gP_77.toInt ∧ gP_77.toInt ≤ 400) ∨ (r_73 = 0 ∧ noNum (byT gT gC) p2.toInt ∧ 0 ≤ gP_77.toInt ∧ gP_77.toInt ≤ 400) := hp_74
          rcases hp_74 with ⟨rfl, p_79, p_80, p_81⟩ | ⟨rfl, p_82, p_83, p_84⟩
          · skip
            refine lv_if_ne (tgt := 78) hx hb dX7_readItem_73 (by decide) (fun _ => ?_) (fun q => absurd q (by decide))
            refine lv_pc (pc2 := 78) rfl ?_
            obtain ⟨x_85, e_86⟩ : ∃ y : Int32, y = yj + Int32.ofInt 1 := ⟨_, rfl⟩
            have i_x_85 : x_85.toInt = yj.toInt + 1 := by rw [e_86, show Int32.ofInt 1 = 1 by decide]; exact (q_add (by rw [show (1 : Int32).toInt = 1 by decide]; omega) (by rw [show (1 : Int32).toInt = 1 by decide]; omega)).trans (by rw [show (1 : Int32).toInt = 1 by decide])
            refine lv_iinc (v := x_85) (lv' := [(4, .int x_85), (3, .int r_40), (2, .int r_34), (1, .int r_13), (0, .ref a0)]) hx hb dX7_readItem_78 hl (k := 0) rfl e_86.symm (by decide) rfl (fun ls hl => ?_)
            refine lv_goto (tgt := 59) hx hb dX7_readItem_81 (by decide) ?_
            exact (hWW45 _ _ _).mp (ih45 x_85 gP_77 gR_78 H locs ls (by omega) (by omega) (by omega) (numsI.step v45_2 p_79 (by omega) (by omega) (by omega)) (sm3.step v45_3 p_79 (by omega)) (by omega) (by omega) hG hS (lv_sub hl [0, 1, 2, 3, 4] rfl))
          · skip
            refine lv_if_ne (tgt := 78) hx hb dX7_readItem_73 (by decide) (fun q => absurd rfl q) (fun _ => ?_)
            refine lv_iconst (v := 0) hx hb dX7_readItem_76 (by decide) ?_
            exact tx_zret (z := (gP_77, gR_78)) hx hb hr hlk rfl hG hS (Or.inr ⟨rfl, (by show noItem (byT gT gC) P; exact itemNo.num (p := 0) hns v45_2 p_82 (by omega) (by omega)), (by show 0 ≤ gP_77.toInt; omega), (by show gP_77.toInt ≤ 400; omega)⟩) dX7_readItem_77
    exact lp45 (3 - (0 : Int32).toInt : Int).toNat 0 p1 r1 H locs ls (by omega) (by omega) (by omega) (by rw [show (0 : Int32).toInt = 0 by decide]; exact numsI.zero v39_3.2.1) sm3.rf (by omega) (by omega) hG hS (lv_sub hl [0, 1, 2, 3, 4] rfl)
  have lp39 : ∀ (kk39 : Nat) (yk : Int32) (p1 : Int32) (r1 : Nat → Int32) (H1 : Heap) (locs1 : List Loc) (ls1 : Array Slot), 2 - yk.toInt ≤ (kk39 : Int) → (0 ≤ yk.toInt) → (yk.toInt ≤ 2) → (yk.toInt ≤ nmO (byT gT gC P)) → (nmsI (byT gT gC) P yk.toInt p1.toInt r1) → (0 ≤ p1.toInt) → (p1.toInt ≤ 400) → tG D (rF cI cL cC gC p1 gT r1 gm gs gg gL gQ gZ gE gV gU gN) t H1 → tF t vTR s.heap H1 locs1 → lv_has ls1 5 [(3, .int yk), (2, .int r_34), (1, .int r_13), (0, .ref a0)] → WW39 H1 locs1 (F0 m 28 ls1 []) := by
    intro kk39
    induction kk39 with
    | zero =>
      intro yk p1 r1 H locs ls hk39 v39_0 v39_1 v39_2 v39_3 v39_4 v39_5 hG hS hl
      refine (hWW39 _ _ _).mpr ?_
      refine lv_iload_n hx hb dX7_readItem_28 rfl (lv_at hl 0 rfl) ?_
      refine lv_iload_n hx hb dX7_readItem_29 rfl (lv_at hl 1 rfl) ?_
      refine lv_icmp_ge (tgt := 51) hx hb dX7_readItem_30 (by decide) (fun c_87 => ?_) (fun c_87 => ?_)
      · skip
        have c_87 : r_34.toInt ≤ yk.toInt := q_le c_87
        exact (hWW39 _ _ _).mp (kx39 yk p1 r1 H locs ls v39_0 v39_1 v39_2 v39_3 v39_4 v39_5 (by omega) hG hS (lv_sub hl [0, 1, 2, 3] rfl))
      · skip
        have c_87 : yk.toInt < r_34.toInt := q_nle c_87
        exfalso; omega
    | succ kk39 ih39 =>
      intro yk p1 r1 H locs ls hk39 v39_0 v39_1 v39_2 v39_3 v39_4 v39_5 hG hS hl
      refine (hWW39 _ _ _).mpr ?_
      refine lv_pc (pc2 := 28) rfl ?_
      refine lv_iload_n hx hb dX7_readItem_28 rfl (lv_at hl 0 rfl) ?_
      refine lv_iload_n hx hb dX7_readItem_29 rfl (lv_at hl 1 rfl) ?_
      refine lv_icmp_ge (tgt := 51) hx hb dX7_readItem_30 (by decide) (fun c_88 => ?_) (fun c_88 => ?_)
      · skip
        have c_88 : r_34.toInt ≤ yk.toInt := q_le c_88
        exact (hWW39 _ _ _).mp (kx39 yk p1 r1 H locs ls v39_0 v39_1 v39_2 v39_3 v39_4 v39_5 (by omega) hG hS (lv_sub hl [0, 1, 2, 3] rfl))
      · skip
        have c_88 : yk.toInt < r_34.toInt := q_nle c_88
        have hin : p1.toInt = P + 1 + yk.toInt := nmsI.in v39_3 (n := yk.toInt) (by omega) (by omega)
        refine lv_aload_n hx hb dX7_readItem_33 rfl (lv_at hl 3 rfl) ?_
        refine lv_iconst (v := 1) hx hb dX7_readItem_34 (by decide) ?_
        refine lv_iload_n hx hb dX7_readItem_35 rfl (lv_at hl 0 rfl) ?_
        refine lv_iadd hx hb dX7_readItem_36 ?_
        refine lv_topi (fun x_89 e_90 => ?_)
        have i_x_89 : x_89.toInt = 1 + yk.toInt := by rw [e_90]; exact (q_add (by rw [show (1 : Int32).toInt = 1 by decide]; omega) (by rw [show (1 : Int32).toInt = 1 by decide]; omega)).trans (by rw [show (1 : Int32).toInt = 1 by decide])
        obtain ⟨r_91, r_93, at_95, h_92, h_94⟩ := rF_o2 hG k_a0
        refine tx_calli (W.runV (As := [.int x_89]) (rest := []) ⟨hx, hb, hml, hown, hts⟩ (v_X7_readName l D t cI cL cC gC p1 gT r1 gm gs gg gL gQ gZ gE gV gU gN a0 x_89 (P + 1 + yk.toInt) uq (by omega) (by omega) hT (by omega) (by omega) (by omega) (by omega) (by omega) k_a0) (cwV 1 hts gu_vX7_readItem_vX7_readName_58 rfl rfl rfl (by decide +kernel) ⟨Nat.le_of_ble_eq_true rfl, Nat.le_of_ble_eq_true rfl⟩) (tP_V hG hE at_95 rfl) rfl rfl hl.1 rfl (lv_room (Nat.le_of_ble_eq_true rfl)) dX7_readItem_37 ⟨Nat.le_of_ble_eq_true rfl, Nat.le_of_ble_eq_true rfl⟩) hS (fun _ h => h) (fun r_96 zz_99 H locs hp_97 hG hS o_98 => ?_)
        obtain ⟨gP_100, gR_101⟩ := zz_99
        replace hG : tG D (rF cI cL cC gC gP_100 gT gR_101 gm gs gg gL gQ gZ gE gV gU gN) t H := hG
        have hp_97 : (r_96 = 1 ∧ nmB (byT gT gC (P + 1 + yk.toInt)) ∧ gP_100.toInt = (P + 1 + yk.toInt) + 1 ∧ nmR (byT gT gC) (P + 1 + yk.toInt) r1 gR_101 x_89.toInt.toNat ∧ 0 ≤ gP_100.toInt ∧ gP_100.toInt ≤ 400) ∨ (r_96 = 0 ∧ ¬ nmB (byT gT gC (P + 1 + yk.toInt)) ∧ 0 ≤ gP_100.toInt ∧ gP_100.toInt ≤ 400) := hp_97
        rcases hp_97 with ⟨rfl, p_102, p_103, p_104, p_105, p_106⟩ | ⟨rfl, p_107, p_108, p_109⟩
        · skip
          refine lv_pc (pc2 := 40) rfl ?_
          refine lv_if_ne (tgt := 45) hx hb dX7_readItem_40 (by decide) (fun _ => ?_) (fun q => absurd q (by decide))
          obtain ⟨x_110, e_111⟩ : ∃ y : Int32, y = yk + Int32.ofInt 1 := ⟨_, rfl⟩
          have i_x_110 : x_110.toInt = yk.toInt + 1 := by rw [e_111, show Int32.ofInt 1 = 1 by decide]; exact (q_add (by rw [show (1 : Int32).toInt = 1 by decide]; omega) (by rw [show (1 : Int32).toInt = 1 by decide]; omega)).trans (by rw [show (1 : Int32).toInt = 1 by decide])
          refine lv_iinc (v := x_110) (lv' := [(3, .int x_110), (2, .int r_34), (1, .int r_13), (0, .ref a0)]) hx hb dX7_readItem_45 hl (k := 0) rfl e_111.symm (by decide) rfl (fun ls hl => ?_)
          refine lv_goto (tgt := 28) hx hb dX7_readItem_48 (by decide) ?_
          exact (hWW39 _ _ _).mp (ih39 x_110 gP_100 gR_101 H locs ls (by omega) (by omega) (by omega) (by omega) (nmsI.step v39_3 (by omega) (by omega) p_102 p_104 (by omega) (by omega) (by omega)) (by omega) (by omega) hG hS (lv_sub hl [0, 1, 2, 3] rfl))
        · skip
          refine lv_if_ne (tgt := 45) hx hb dX7_readItem_40 (by decide) (fun q => absurd rfl q) (fun _ => ?_)
          refine lv_iconst (v := 0) hx hb dX7_readItem_43 (by decide) ?_
          exact tx_zret (z := (gP_100, gR_101)) hx hb hr hlk rfl hG hS (Or.inr ⟨rfl, (by show noItem (byT gT gC) P; exact nmsI.no (by omega) (by omega) p_107), (by show 0 ≤ gP_100.toInt; omega), (by show gP_100.toInt ≤ 400; omega)⟩) dX7_readItem_44
  exact lp39 (2 - (0 : Int32).toInt : Int).toNat 0 gP_17 q_31 H locs ls (by omega) (by omega) (by omega) (by omega) (by rw [show (0 : Int32).toInt = 0 by decide]; exact nmsI.zero hg_9 eq_31 (by omega) (fun q => by have := byT_lt q; omega)) (by omega) (by omega) hG hS (lv_sub hl [0, 1, 2, 3] rfl)

def uvX7_readAlone : List Cond := .code yX7_readAlone cX7_readAlone 1 (some .boolean) :: ([.fieldLink RX7 22 "RiverModel$Text" "at" "I", .methodLink RX7 30 yX7_readItem, .instanceMethod yX7_readItem, .selects RX7 yX7_readItem yX7_readItem, .initialized RX7, .fieldLink RX7 18 "RiverModel$Text" "length" "I", .code yX7_readItem cX7_readItem 5 (some .boolean), .fieldLink RX7 15 "RiverModel$Text" "row" "[I", .methodLink RX7 42 yJ7_fill_53178, .static yJ7_fill_53178, .initialized RJ7, .methodLink RX7 48 yX7_nextByte, .instanceMethod yX7_nextByte, .selects RX7 yX7_nextByte yX7_nextByte, .methodLink RX7 52 yX2_namesOf, .static yX2_namesOf, .initialized RX2, .methodLink RX7 62 yX2_numbersOf, .static yX2_numbersOf, .methodLink RX7 65 yX7_readNumber, .instanceMethod yX7_readNumber, .selects RX7 yX7_readNumber yX7_readNumber, .methodLink RX7 58 yX7_readName, .instanceMethod yX7_readName, .selects RX7 yX7_readName yX7_readName, .code yJ7_fill_53178 cJ7_fill_53178 4 none, .code yX7_nextByte cX7_nextByte 1 (some .int), .fieldLink RX7 9 "RiverModel$Text" "bytes" "[I", .code yX2_namesOf cX2_namesOf 1 (some .int), .code yX2_numbersOf cX2_numbersOf 1 (some .int), .code yX7_readNumber cX7_readNumber 4 (some .boolean), .methodLink RX7 71 yX7_isAtFigure, .instanceMethod yX7_isAtFigure, .selects RX7 yX7_isAtFigure yX7_isAtFigure, .code yX7_isAtFigure cX7_isAtFigure 1 (some .boolean), .initialized RX9, .static yX9_isOutside, .code yX9_isOutside cX9_isOutside 3 (some .boolean), .code yX7_readName cX7_readName 3 (some .boolean), .static yX9_isNoStore, .code yX9_isNoStore cX9_isNoStore 1 (some .boolean)] ++ wsX70)
set_option maxRecDepth 20000 in
theorem gu_vX7_readAlone_vX7_readItem_30 : GoodIn uvX7_readAlone (wsV RX7 30 RX7 yX7_readItem uvX7_readItem) := goodIn_r _ [2, 3, 4, 5, 7, 8, 9, 10, 11, 12, 13, 14, 5, 15, 16, 17, 18, 19, 20, 21, 22, 23, 24, 25, 26, 27, 1, 6, 28, 29, 30, 31, 32, 33, 34, 35, 36, 37, 38, 39, 40, 41, 42, 43, 44, 45] rfl (by decide +kernel)
set_option maxHeartbeats 4000000 in
set_option maxRecDepth 100000 in
theorem v_X7_readAlone (l : Launch) (D : va_G) (t : Nat → Nat) (cI cL cC : ClassId) (gC : Int32) (gP : Int32) (gT : Nat → Int32) (gR : Nat → Int32) (gm : Int32) (gs : Int32) (gg : Int32) (gL : Nat → Int32) (gQ : Nat → Int32) (gZ : Nat → Int32) (gE : Int32) (gV : Nat → Int32) (gU : Nat → Int32) (gN : Nat → Int32) (a0 : Nat) (uq : ∀ b c : Nat, t b = t c → t b ≠ 0 → b = c) (hC0 : 0 ≤ gC.toInt) (hC4 : gC.toInt ≤ 400) (hT : gBd 400 0 255 gT) (k_a0 : t a0 = 2) : tMx (Z := (Int32) × (Nat → Int32)) l yX7_readAlone uvX7_readAlone 4 89 D (rF cI cL cC gC gP gT gR gm gs gg gL gQ gZ gE gV gU gN) (fun z => (rF cI cL cC gC z.1 gT z.2 gm gs gg gL gQ gZ gE gV gU gN)) t cI cL cC [.ref a0] vTR (xI (fun r (z : (Int32) × (Nat → Int32)) => (r = 1 ∧ itemAt (byT gT gC) 0 (z.2 0) (z.2 1) (z.2 2) (z.2 3) (z.2 4) (z.2 5) gC.toInt ∧ 0 ≤ z.1.toInt ∧ z.1.toInt ≤ 400) ∨ (r = 0 ∧ (∀ (k f s a b c : Int32), ¬ itemAt (byT gT gC) 0 k f s a b c gC.toInt) ∧ 0 ≤ z.1.toInt ∧ z.1.toInt ≤ 400))) := by
  refine tMx.ofW (cc := cX7_readAlone) (maxL := 1) (ret := (some .boolean)) (by decide) rfl (Nat.le_of_ble_eq_true rfl) ?_
  intro p e s m below meth c hx hb hr hml hown hts hlk H locs hG hK hE hS ls hl
  have hl : lv_has ls 1 [(0, .ref a0)] := hl
  have in7 : ∀ w ∈ wsX70, w ∈ uvX7_readAlone := fun w h => List.mem_cons_of_mem _ (List.mem_append_right _ h)
  refine lv_aload_n hx hb dX7_readAlone_0 rfl (lv_at hl 0 rfl) ?_
  refine lv_iconst (v := 0) hx hb dX7_readAlone_1 (by decide) ?_
  obtain ⟨r_1, r_3, at_5, h_2, h_4⟩ := rF_o2 hG k_a0
  have zi_0 : (0 : Int32).toInt = 0 := by decide
  refine ty_put (D := D) (ci := 6) (v := .int 0) (ty := .int) (C := RX7) (T := TX7) (N := 4) (F2 := (rF cI cL cC gC 0 gT gR gm gs gg gL gQ gZ gE gV gU gN)) hx hb hts in7 tyX7 tyX7_ok nmX7 hown hK hG hS at_5 (by rw [k_a0]; rfl) rfl 3 (by decide) (hts (.fieldLink RX7 22 "RiverModel$Text" "at" "I") (List.mem_of_getElem? (i := 1) rfl)) (fun _ h9 => h9) rfl (by decide +kernel) rfl rfl (Nat.le_of_ble_eq_true rfl) (by rw [k_a0]; exact ⟨r_1, r_3, rfl, h_2, h_4⟩) (fun hG b hb h0 => by obtain ⟨e, g1, g2⟩ := hG b h0; exact ⟨e, g1, rF_gP (fun h => hb (uq b a0 (h.trans k_a0.symm) h0)) g2⟩) dX7_readAlone_2 (fun H locs hG hS at_6 o_7 => ?_)
  have at_6 : va_at D vwCl (a0, .inr (6, [.ref r_1, .ref r_3, .int gC, .int 0])) H := at_6
  refine lv_aload_n hx hb dX7_readAlone_5 rfl (lv_at hl 0 rfl) ?_
  refine tx_calli (W.runV (As := []) (rest := []) ⟨hx, hb, hml, hown, hts⟩ (v_X7_readItem l D t cI cL cC gC 0 gT gR gm gs gg gL gQ gZ gE gV gU gN a0 0 uq (by omega) (by omega) hT (by omega) (by omega) (by omega) k_a0) (cwV 0 hts gu_vX7_readAlone_vX7_readItem_30 rfl rfl rfl (by decide +kernel) ⟨Nat.le_of_ble_eq_true rfl, Nat.le_of_ble_eq_true rfl⟩) (tP_V hG hE at_6 rfl) rfl rfl hl.1 rfl (lv_room (Nat.le_of_ble_eq_true rfl)) dX7_readAlone_6 ⟨Nat.le_of_ble_eq_true rfl, Nat.le_of_ble_eq_true rfl⟩) hS (fun _ h => h) (fun r_8 zz_11 H locs hp_9 hG hS o_10 => ?_)
  obtain ⟨gP_12, gR_13⟩ := zz_11
  replace hG : tG D (rF cI cL cC gC gP_12 gT gR_13 gm gs gg gL gQ gZ gE gV gU gN) t H := hG
  have hp_9 : (r_8 = 1 ∧ itemAt (byT gT gC) 0 (gR_13 0) (gR_13 1) (gR_13 2) (gR_13 3) (gR_13 4) (gR_13 5) gP_12.toInt ∧ 0 ≤ gP_12.toInt ∧ gP_12.toInt ≤ 400) ∨ (r_8 = 0 ∧ noItem (byT gT gC) 0 ∧ 0 ≤ gP_12.toInt ∧ gP_12.toInt ≤ 400) := hp_9
  rcases hp_9 with ⟨rfl, p_14, p_15, p_16⟩ | ⟨rfl, p_17, p_18, p_19⟩
  · skip
    refine lv_if_eq (tgt := 27) hx hb dX7_readAlone_9 (by decide) (fun q => absurd q (by decide)) (fun _ => ?_)
    refine lv_aload_n hx hb dX7_readAlone_12 rfl (lv_at hl 0 rfl) ?_
    refine lv_pc (pc2 := 13) rfl ?_
    obtain ⟨r_20, r_22, at_24, h_21, h_23⟩ := rF_o2 hG k_a0
    refine va_get (D := D) (ci := 6) (v := .int gP_12) (C := RX7) (T := TX7) (N := 4) hx hb hts in7 hown hK (va_one at_24) 0 rfl rfl 3 (by decide) (hts (.fieldLink RX7 22 "RiverModel$Text" "at" "I") (List.mem_of_getElem? (i := 1) rfl)) (fun _ h9 => h9) rfl dX7_readAlone_13 ?_
    refine lv_aload_n hx hb dX7_readAlone_16 rfl (lv_at hl 0 rfl) ?_
    refine va_get (D := D) (ci := 6) (v := .int gC) (C := RX7) (T := TX7) (N := 4) hx hb hts in7 hown hK (va_one at_24) 0 rfl rfl 2 (by decide) (hts (.fieldLink RX7 18 "RiverModel$Text" "length" "I") (List.mem_of_getElem? (i := 6) rfl)) (fun _ h9 => h9) rfl dX7_readAlone_17 ?_
    refine lv_icmp_ne (tgt := 27) hx hb dX7_readAlone_20 (by decide) (fun c_25 => ?_) (fun c_25 => ?_)
    · skip
      have c_25 : gP_12.toInt ≠ gC.toInt := q_ne c_25
      refine lv_iconst (v := 0) hx hb dX7_readAlone_27 (by decide) ?_
      exact tx_zret (z := (gP_12, gR_13)) hx hb hr hlk rfl hG hS (Or.inr ⟨rfl, (by show ∀ (k f s a b c : Int32), ¬ itemAt (byT gT gC) 0 k f s a b c gC.toInt; exact itemAt.nat p_14 (by omega)), (by show 0 ≤ gP_12.toInt; omega), (by show gP_12.toInt ≤ 400; omega)⟩) dX7_readAlone_28
    · skip
      have c_25 : gP_12.toInt = gC.toInt := q_eq c_25
      refine lv_iconst (v := 1) hx hb dX7_readAlone_23 (by decide) ?_
      refine lv_goto (tgt := 28) hx hb dX7_readAlone_24 (by decide) ?_
      refine lv_pc (pc2 := 28) rfl ?_
      have zi_1 : (1 : Int32).toInt = 1 := by decide
      exact tx_zret (z := (gP_12, gR_13)) hx hb hr hlk rfl hG hS (Or.inl ⟨rfl, (by show itemAt (byT gT gC) 0 (gR_13 0) (gR_13 1) (gR_13 2) (gR_13 3) (gR_13 4) (gR_13 5) gC.toInt; exact itemAt.at p_14 (by omega)), (by show 0 ≤ gP_12.toInt; omega), (by show gP_12.toInt ≤ 400; omega)⟩) dX7_readAlone_28
  · skip
    refine lv_if_eq (tgt := 27) hx hb dX7_readAlone_9 (by decide) (fun _ => ?_) (fun q => absurd (by decide) q)
    refine lv_iconst (v := 0) hx hb dX7_readAlone_27 (by decide) ?_
    exact tx_zret (z := (gP_12, gR_13)) hx hb hr hlk rfl hG hS (Or.inr ⟨rfl, (fun k f s a b c => p_17 k f s a b c _), (by show 0 ≤ gP_12.toInt; omega), (by show gP_12.toInt ≤ 400; omega)⟩) dX7_readAlone_28
