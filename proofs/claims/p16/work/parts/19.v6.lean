theorem dX4_copyFrom_0 : decode cX4_copyFrom 0 = .ok (.aload_n 1, 1) := by decide +kernel
theorem dX4_copyFrom_1 : decode cX4_copyFrom 1 = .ok (.getfield 9, 3) := by decide +kernel
theorem dX4_copyFrom_4 : decode cX4_copyFrom 4 = .ok (.iconst 0, 1) := by decide +kernel
theorem dX4_copyFrom_5 : decode cX4_copyFrom 5 = .ok (.aload_n 0, 1) := by decide +kernel
theorem dX4_copyFrom_6 : decode cX4_copyFrom 6 = .ok (.getfield 9, 3) := by decide +kernel
theorem dX4_copyFrom_9 : decode cX4_copyFrom 9 = .ok (.iconst 0, 1) := by decide +kernel
theorem dX4_copyFrom_10 : decode cX4_copyFrom 10 = .ok (.aload_n 0, 1) := by decide +kernel
theorem dX4_copyFrom_11 : decode cX4_copyFrom 11 = .ok (.getfield 9, 3) := by decide +kernel
theorem dX4_copyFrom_14 : decode cX4_copyFrom 14 = .ok (.arraylength, 1) := by decide +kernel
theorem dX4_copyFrom_15 : decode cX4_copyFrom 15 = .ok (.invokestatic 37, 3) := by decide +kernel
theorem dX4_copyFrom_18 : decode cX4_copyFrom 18 = .ok (.aload_n 1, 1) := by decide +kernel
theorem dX4_copyFrom_19 : decode cX4_copyFrom 19 = .ok (.getfield 15, 3) := by decide +kernel
theorem dX4_copyFrom_22 : decode cX4_copyFrom 22 = .ok (.iconst 0, 1) := by decide +kernel
theorem dX4_copyFrom_23 : decode cX4_copyFrom 23 = .ok (.aload_n 0, 1) := by decide +kernel
theorem dX4_copyFrom_24 : decode cX4_copyFrom 24 = .ok (.getfield 15, 3) := by decide +kernel
theorem dX4_copyFrom_27 : decode cX4_copyFrom 27 = .ok (.iconst 0, 1) := by decide +kernel
theorem dX4_copyFrom_28 : decode cX4_copyFrom 28 = .ok (.bipush 16, 2) := by decide +kernel
theorem dX4_copyFrom_30 : decode cX4_copyFrom 30 = .ok (.invokestatic 37, 3) := by decide +kernel
theorem dX4_copyFrom_33 : decode cX4_copyFrom 33 = .ok (.aload_n 1, 1) := by decide +kernel
theorem dX4_copyFrom_34 : decode cX4_copyFrom 34 = .ok (.getfield 18, 3) := by decide +kernel
theorem dX4_copyFrom_37 : decode cX4_copyFrom 37 = .ok (.iconst 0, 1) := by decide +kernel
theorem dX4_copyFrom_38 : decode cX4_copyFrom 38 = .ok (.aload_n 0, 1) := by decide +kernel
theorem dX4_copyFrom_39 : decode cX4_copyFrom 39 = .ok (.getfield 18, 3) := by decide +kernel
theorem dX4_copyFrom_42 : decode cX4_copyFrom 42 = .ok (.iconst 0, 1) := by decide +kernel
theorem dX4_copyFrom_43 : decode cX4_copyFrom 43 = .ok (.iconst 4, 1) := by decide +kernel
theorem dX4_copyFrom_44 : decode cX4_copyFrom 44 = .ok (.invokestatic 37, 3) := by decide +kernel
theorem dX4_copyFrom_47 : decode cX4_copyFrom 47 = .ok (.aload_n 0, 1) := by decide +kernel
theorem dX4_copyFrom_48 : decode cX4_copyFrom 48 = .ok (.aload_n 1, 1) := by decide +kernel
theorem dX4_copyFrom_49 : decode cX4_copyFrom 49 = .ok (.getfield 21, 3) := by decide +kernel
theorem dX4_copyFrom_52 : decode cX4_copyFrom 52 = .ok (.putfield 21, 3) := by decide +kernel
theorem dX4_copyFrom_55 : decode cX4_copyFrom 55 = .ok (.aload_n 0, 1) := by decide +kernel
theorem dX4_copyFrom_56 : decode cX4_copyFrom 56 = .ok (.aload_n 1, 1) := by decide +kernel
theorem dX4_copyFrom_57 : decode cX4_copyFrom 57 = .ok (.getfield 25, 3) := by decide +kernel
theorem dX4_copyFrom_60 : decode cX4_copyFrom 60 = .ok (.putfield 25, 3) := by decide +kernel
theorem dX4_copyFrom_63 : decode cX4_copyFrom 63 = .ok (.aload_n 0, 1) := by decide +kernel
theorem dX4_copyFrom_64 : decode cX4_copyFrom 64 = .ok (.aload_n 1, 1) := by decide +kernel
theorem dX4_copyFrom_65 : decode cX4_copyFrom 65 = .ok (.getfield 28, 3) := by decide +kernel
theorem dX4_copyFrom_68 : decode cX4_copyFrom 68 = .ok (.putfield 28, 3) := by decide +kernel
theorem dX4_copyFrom_71 : decode cX4_copyFrom 71 = .ok (.return_, 1) := by decide +kernel
theorem dX4_mayReplace_0 : decode cX4_mayReplace 0 = .ok (.aload_n 0, 1) := by decide +kernel
theorem dX4_mayReplace_1 : decode cX4_mayReplace 1 = .ok (.iload_n 1, 1) := by decide +kernel
theorem dX4_mayReplace_2 : decode cX4_mayReplace 2 = .ok (.iconst 0, 1) := by decide +kernel
theorem dX4_mayReplace_3 : decode cX4_mayReplace 3 = .ok (.invokevirtual 73, 3) := by decide +kernel
theorem dX4_mayReplace_6 : decode cX4_mayReplace 6 = .ok (.istore_n 3, 1) := by decide +kernel
theorem dX4_mayReplace_7 : decode cX4_mayReplace 7 = .ok (.iload_n 3, 1) := by decide +kernel
theorem dX4_mayReplace_8 : decode cX4_mayReplace 8 = .ok (.bipush 115, 2) := by decide +kernel
theorem dX4_mayReplace_10 : decode cX4_mayReplace 10 = .ok (.if_icmp .eq 11, 3) := by decide +kernel
theorem dX4_mayReplace_13 : decode cX4_mayReplace 13 = .ok (.aload_n 2, 1) := by decide +kernel
theorem dX4_mayReplace_14 : decode cX4_mayReplace 14 = .ok (.iconst 0, 1) := by decide +kernel
theorem dX4_mayReplace_15 : decode cX4_mayReplace 15 = .ok (.iaload, 1) := by decide +kernel
theorem dX4_mayReplace_16 : decode cX4_mayReplace 16 = .ok (.bipush 115, 2) := by decide +kernel
theorem dX4_mayReplace_18 : decode cX4_mayReplace 18 = .ok (.if_icmp .ne 35, 3) := by decide +kernel
theorem dX4_mayReplace_21 : decode cX4_mayReplace 21 = .ok (.aload_n 2, 1) := by decide +kernel
theorem dX4_mayReplace_22 : decode cX4_mayReplace 22 = .ok (.invokestatic 62, 3) := by decide +kernel
theorem dX4_mayReplace_25 : decode cX4_mayReplace 25 = .ok (.ifCond .eq 26, 3) := by decide +kernel
theorem dX4_mayReplace_28 : decode cX4_mayReplace 28 = .ok (.iload_n 3, 1) := by decide +kernel
theorem dX4_mayReplace_29 : decode cX4_mayReplace 29 = .ok (.aload_n 2, 1) := by decide +kernel
theorem dX4_mayReplace_30 : decode cX4_mayReplace 30 = .ok (.iconst 0, 1) := by decide +kernel
theorem dX4_mayReplace_31 : decode cX4_mayReplace 31 = .ok (.iaload, 1) := by decide +kernel
theorem dX4_mayReplace_32 : decode cX4_mayReplace 32 = .ok (.if_icmp .ne 19, 3) := by decide +kernel
theorem dX4_mayReplace_35 : decode cX4_mayReplace 35 = .ok (.aload_n 0, 1) := by decide +kernel
theorem dX4_mayReplace_36 : decode cX4_mayReplace 36 = .ok (.iload_n 1, 1) := by decide +kernel
theorem dX4_mayReplace_37 : decode cX4_mayReplace 37 = .ok (.iconst 1, 1) := by decide +kernel
theorem dX4_mayReplace_38 : decode cX4_mayReplace 38 = .ok (.invokevirtual 73, 3) := by decide +kernel
theorem dX4_mayReplace_41 : decode cX4_mayReplace 41 = .ok (.aload_n 2, 1) := by decide +kernel
theorem dX4_mayReplace_42 : decode cX4_mayReplace 42 = .ok (.iconst 1, 1) := by decide +kernel
theorem dX4_mayReplace_43 : decode cX4_mayReplace 43 = .ok (.iaload, 1) := by decide +kernel
theorem dX4_mayReplace_44 : decode cX4_mayReplace 44 = .ok (.if_icmp .ne 7, 3) := by decide +kernel
theorem dX4_mayReplace_47 : decode cX4_mayReplace 47 = .ok (.iconst 1, 1) := by decide +kernel
theorem dX4_mayReplace_48 : decode cX4_mayReplace 48 = .ok (.goto 4, 3) := by decide +kernel
theorem dX4_mayReplace_51 : decode cX4_mayReplace 51 = .ok (.iconst 0, 1) := by decide +kernel
theorem dX4_mayReplace_52 : decode cX4_mayReplace 52 = .ok (.ireturn, 1) := by decide +kernel
theorem dX4_mayReplace_53 : decode cX4_mayReplace 53 = .ok (.aload_n 2, 1) := by decide +kernel
theorem dX4_mayReplace_54 : decode cX4_mayReplace 54 = .ok (.invokestatic 62, 3) := by decide +kernel
theorem dX4_mayReplace_57 : decode cX4_mayReplace 57 = .ok (.ifCond .eq 43, 3) := by decide +kernel
theorem dX4_mayReplace_60 : decode cX4_mayReplace 60 = .ok (.aload_n 0, 1) := by decide +kernel
theorem dX4_mayReplace_61 : decode cX4_mayReplace 61 = .ok (.aload_n 2, 1) := by decide +kernel
theorem dX4_mayReplace_62 : decode cX4_mayReplace 62 = .ok (.iload_n 1, 1) := by decide +kernel
theorem dX4_mayReplace_63 : decode cX4_mayReplace 63 = .ok (.invokevirtual 69, 3) := by decide +kernel
theorem dX4_mayReplace_66 : decode cX4_mayReplace 66 = .ok (.ifCond .eq 34, 3) := by decide +kernel
theorem dX4_mayReplace_69 : decode cX4_mayReplace 69 = .ok (.iload_n 3, 1) := by decide +kernel
theorem dX4_mayReplace_70 : decode cX4_mayReplace 70 = .ok (.bipush 103, 2) := by decide +kernel
theorem dX4_mayReplace_72 : decode cX4_mayReplace 72 = .ok (.if_icmp .ne 7, 3) := by decide +kernel
theorem dX4_mayReplace_75 : decode cX4_mayReplace 75 = .ok (.iconst 1, 1) := by decide +kernel
theorem dX4_mayReplace_76 : decode cX4_mayReplace 76 = .ok (.goto 4, 3) := by decide +kernel
theorem dX4_mayReplace_79 : decode cX4_mayReplace 79 = .ok (.iconst 0, 1) := by decide +kernel
theorem dX4_mayReplace_80 : decode cX4_mayReplace 80 = .ok (.aload_n 2, 1) := by decide +kernel
theorem dX4_mayReplace_81 : decode cX4_mayReplace 81 = .ok (.iconst 0, 1) := by decide +kernel
theorem dX4_mayReplace_82 : decode cX4_mayReplace 82 = .ok (.iaload, 1) := by decide +kernel
theorem dX4_mayReplace_83 : decode cX4_mayReplace 83 = .ok (.bipush 103, 2) := by decide +kernel
theorem dX4_mayReplace_85 : decode cX4_mayReplace 85 = .ok (.if_icmp .ne 7, 3) := by decide +kernel
theorem dX4_mayReplace_88 : decode cX4_mayReplace 88 = .ok (.iconst 1, 1) := by decide +kernel
theorem dX4_mayReplace_89 : decode cX4_mayReplace 89 = .ok (.goto 4, 3) := by decide +kernel
theorem dX4_mayReplace_92 : decode cX4_mayReplace 92 = .ok (.iconst 0, 1) := by decide +kernel
theorem dX4_mayReplace_93 : decode cX4_mayReplace 93 = .ok (.if_icmp .ne 7, 3) := by decide +kernel
theorem dX4_mayReplace_96 : decode cX4_mayReplace 96 = .ok (.iconst 1, 1) := by decide +kernel
theorem dX4_mayReplace_97 : decode cX4_mayReplace 97 = .ok (.goto 4, 3) := by decide +kernel
theorem dX4_mayReplace_100 : decode cX4_mayReplace 100 = .ok (.iconst 0, 1) := by decide +kernel
theorem dX4_mayReplace_101 : decode cX4_mayReplace 101 = .ok (.ireturn, 1) := by decide +kernel
def uvX4_mayReplace : List Cond := .code yX4_mayReplace cX4_mayReplace 4 (some .boolean) :: ([.methodLink RX4 73 yX4_cell, .instanceMethod yX4_cell, .selects RX4 yX4_cell yX4_cell, .initialized RX4, .methodLink RX4 62 yX4_areNumbersAsTold, .static yX4_areNumbersAsTold, .methodLink RX4 69 yX4_areNamesAhead, .instanceMethod yX4_areNamesAhead, .selects RX4 yX4_areNamesAhead yX4_areNamesAhead, .code yX4_cell cX4_cell 3 (some .int), .fieldLink RX4 9 "RiverModel$Model" "cells" "[I", .code yX4_areNumbersAsTold cX4_areNumbersAsTold 1 (some .boolean), .methodLink RX4 77 yX2_areNumbersAsTold, .static yX2_areNumbersAsTold, .initialized RX2, .code yX2_areNumbersAsTold cX2_areNumbersAsTold 4 (some .boolean), .methodLink RX2 10 yX2_isUpTo, .static yX2_isUpTo, .constant RX2 9 (1000000), .code yX2_isUpTo cX2_isUpTo 2 (some .boolean), .code yX4_areNamesAhead cX4_areNamesAhead 5 (some .boolean), .methodLink RX4 82 yX4_isStoreAhead, .instanceMethod yX4_isStoreAhead, .selects RX4 yX4_isStoreAhead yX4_isStoreAhead, .code yX4_isStoreAhead cX4_isStoreAhead 3 (some .boolean), .methodLink RX4 66 yX4_hasStore, .instanceMethod yX4_hasStore, .selects RX4 yX4_hasStore yX4_hasStore, .fieldLink RX4 15 "RiverModel$Model" "storeItems" "[I", .code yX4_hasStore cX4_hasStore 2 (some .boolean)] ++ wsX40)
set_option maxRecDepth 20000 in
theorem gu_vX4_mayReplace_vX4_cell_73 : GoodIn uvX4_mayReplace (wsV RX4 73 RX4 yX4_cell uvX4_cell) := goodIn_r _ [1, 2, 3, 4, 10, 11, 31, 32, 33, 34, 35, 36] rfl (by decide +kernel)
set_option maxRecDepth 20000 in
theorem gu_vX4_mayReplace_vX4_areNumbersAsTold_62 : GoodIn uvX4_mayReplace (va_wsS RX4 62 yX4_areNumbersAsTold uvX4_areNumbersAsTold) := goodIn_r _ [5, 6, 4, 12, 13, 14, 15, 16, 17, 18, 19, 20] rfl (by decide +kernel)
set_option maxRecDepth 20000 in
theorem gu_vX4_mayReplace_vX4_areNamesAhead_69 : GoodIn uvX4_mayReplace (wsV RX4 69 RX4 yX4_areNamesAhead uvX4_areNamesAhead) := goodIn_r _ [7, 8, 9, 4, 21, 22, 23, 24, 4, 25, 26, 27, 28, 29, 30, 31, 32, 33, 34, 35, 36] rfl (by decide +kernel)
set_option maxHeartbeats 4000000 in
set_option maxRecDepth 100000 in
theorem v_X4_mayReplace (l : Launch) (D : va_G) (t : Nat → Nat) (cI cL cC : ClassId) (gC : Int32) (gP : Int32) (gT : Nat → Int32) (gR : Nat → Int32) (gm : Int32) (gs : Int32) (gg : Int32) (gL : Nat → Int32) (gQ : Nat → Int32) (gZ : Nat → Int32) (gE : Int32) (gV : Nat → Int32) (gU : Nat → Int32) (gN : Nat → Int32) (a0 : Nat) (a1 : Int32) (a2 : Nat) (uq : ∀ b c : Nat, t b = t c → t b ≠ 0 → b = c) (h0 : 0 ≤ a1.toInt) (h39 : a1.toInt ≤ 39) (k_a0 : t a0 = 3) (k_a2 : t a2 = 11) : tM l yX4_mayReplace uvX4_mayReplace 3 67 D (rF cI cL cC gC gP gT gR gm gs gg gL gQ gZ gE gV gU gN) (rF cI cL cC gC gP gT gR gm gs gg gL gQ gZ gE gV gU gN) t cI cL cC [.ref a0, .int a1, .ref a2] wr0 (pI (fun r => (r = 1 ∧ mayR gL gQ gR a1.toInt) ∨ (r = 0 ∧ ¬ mayR gL gQ gR a1.toInt))) := by
  refine tM.ofW (cc := cX4_mayReplace) (maxL := 4) (ret := (some .boolean)) (by decide) rfl (Nat.le_of_ble_eq_true rfl) ?_
  intro p e s m below meth c hx hb hr hml hown hts hlk H locs hG hK hE hS ls hl
  have hl : lv_has ls 4 [(0, .ref a0), (1, .int a1), (2, .ref a2)] := hl
  skip
  refine lv_aload_n hx hb dX4_mayReplace_0 rfl (lv_at hl 0 rfl) ?_
  refine lv_iload_n hx hb dX4_mayReplace_1 rfl (lv_at hl 1 rfl) ?_
  refine lv_iconst (v := 0) hx hb dX4_mayReplace_2 (by decide) ?_
  have zi_0 : (0 : Int32).toInt = 0 := by decide
  obtain ⟨r_1, r_3, r_5, at_7, h_2, h_4, h_6⟩ := rF_o3 hG k_a0
  refine ty_calli (W.runV (As := [.int a1, .int 0]) (rest := []) ⟨hx, hb, hml, hown, hts⟩ (v_X4_cell l D t cI cL cC gC gP gT gR gm gs gg gL gQ gZ gE gV gU gN a0 a1 0 0 uq (by decide) k_a0) (cwV 2 hts gu_vX4_mayReplace_vX4_cell_73 rfl rfl rfl (by decide +kernel) ⟨Nat.le_of_ble_eq_true rfl, Nat.le_of_ble_eq_true rfl⟩) (tP_V hG hE at_7 rfl) rfl rfl hl.1 rfl (lv_room (Nat.le_of_ble_eq_true rfl)) dX4_mayReplace_3 ⟨Nat.le_of_ble_eq_true rfl, Nat.le_of_ble_eq_true rfl⟩) hS (fun _ h => h) (fun r_8 H locs hp_9 hG hS o_10 => ?_)
  have at_7 := va_at.keptC at_7 o_10 k_a0 rfl
  have hp_9 : cellQ gL a1.toInt 0 r_8 := hp_9
  have p_12 := hp_9
  have i_r_8 : r_8.toInt = (gL (6 * a1.toInt).toNat).toInt := cellQ.at p_12 (by omega) (by omega) (by omega) (by omega) (by omega)
  refine lv_istore_n (lv' := [(3, .int r_8), (0, .ref a0), (1, .int a1), (2, .ref a2)]) hx hb dX4_mayReplace_6 rfl hl (by decide) rfl (fun ls hl => ?_)
  refine lv_iload_n hx hb dX4_mayReplace_7 rfl (lv_at hl 0 rfl) ?_
  refine lv_bipush (v := 115) hx hb dX4_mayReplace_8 (by decide) ?_
  refine lv_pc (pc2 := 10) rfl ?_
  refine lv_icmp_eq (tgt := 21) hx hb dX4_mayReplace_10 (by decide) (fun c_13 => ?_) (fun c_13 => ?_)
  · skip
    have c_13 : r_8.toInt = 115 := q_eq c_13
    refine lv_aload_n hx hb dX4_mayReplace_21 rfl (lv_at hl 3 rfl) ?_
    refine ty_calli (W.runS (As := [.ref a2]) (rest := []) ⟨hx, hb, hml, hown, hts⟩ (v_X4_areNumbersAsTold l D t cI cL cC gC gP gT gR gm gs gg gL gQ gZ gE gV gU gN a2  uq  k_a2) (va_cwS 1 hts gu_vX4_mayReplace_vX4_areNumbersAsTold_62 rfl rfl rfl (by decide +kernel) ⟨Nat.le_of_ble_eq_true rfl, Nat.le_of_ble_eq_true rfl⟩) (tP_S hG hE) rfl rfl hl.1 rfl (lv_room (Nat.le_of_ble_eq_true rfl)) dX4_mayReplace_22 ⟨Nat.le_of_ble_eq_true rfl, Nat.le_of_ble_eq_true rfl⟩) hS (fun _ h => h) (fun r_14 H locs hp_15 hG hS o_16 => ?_)
    have at_7 := va_at.keptC at_7 o_16 k_a0 rfl
    have hp_15 : (r_14 = 1 ∧ wellR gR) ∨ (r_14 = 0 ∧ ¬ wellR gR) := hp_15
    rcases hp_15 with ⟨rfl, p_18⟩ | ⟨rfl, p_19⟩
    · skip
      refine lv_if_eq (tgt := 51) hx hb dX4_mayReplace_25 (by decide) (fun q => absurd q (by decide)) (fun _ => ?_)
      refine lv_iload_n hx hb dX4_mayReplace_28 rfl (lv_at hl 0 rfl) ?_
      refine lv_aload_n hx hb dX4_mayReplace_29 rfl (lv_at hl 3 rfl) ?_
      refine lv_iconst (v := 0) hx hb dX4_mayReplace_30 (by decide) ?_
      have at_20 := rF_o11 hG k_a2
      have b_21 : vp_in 0 6 := (q_in (by decide) (by decide))
      refine va_iald hx hb hK (va_one at_20) 0 0 rfl rfl b_21 dX4_mayReplace_31 ?_
      refine lv_topi (fun x_22 e_23 => ?_)
      have w_x_22 : x_22 = gR 0 := by rw [e_23]; rfl
      have i_x_22 : x_22.toInt = (gR 0).toInt := by rw [w_x_22]
      refine lv_pc (pc2 := 32) rfl ?_
      refine lv_icmp_ne (tgt := 51) hx hb dX4_mayReplace_32 (by decide) (fun c_24 => ?_) (fun c_24 => ?_)
      · skip
        have c_24 : r_8.toInt ≠ x_22.toInt := q_ne c_24
        refine lv_iconst (v := 0) hx hb dX4_mayReplace_51 (by decide) ?_
        exact ty_zret hx hb hr hlk rfl hG hS (Or.inr ⟨rfl, (by show ¬ mayR gL gQ gR a1.toInt; exact fun h => by have := h.2.1 (by omega); omega)⟩) dX4_mayReplace_52
      · skip
        have c_24 : r_8.toInt = x_22.toInt := q_eq c_24
        refine lv_aload_n hx hb dX4_mayReplace_35 rfl (lv_at hl 1 rfl) ?_
        refine lv_iload_n hx hb dX4_mayReplace_36 rfl (lv_at hl 2 rfl) ?_
        refine lv_iconst (v := 1) hx hb dX4_mayReplace_37 (by decide) ?_
        have zi_1 : (1 : Int32).toInt = 1 := by decide
        refine ty_calli (W.runV (As := [.int a1, .int 1]) (rest := []) ⟨hx, hb, hml, hown, hts⟩ (v_X4_cell l D t cI cL cC gC gP gT gR gm gs gg gL gQ gZ gE gV gU gN a0 a1 1 1 uq (by decide) k_a0) (cwV 2 hts gu_vX4_mayReplace_vX4_cell_73 rfl rfl rfl (by decide +kernel) ⟨Nat.le_of_ble_eq_true rfl, Nat.le_of_ble_eq_true rfl⟩) (tP_V hG hE at_7 rfl) rfl rfl hl.1 rfl (lv_room (Nat.le_of_ble_eq_true rfl)) dX4_mayReplace_38 ⟨Nat.le_of_ble_eq_true rfl, Nat.le_of_ble_eq_true rfl⟩) hS (fun _ h => h) (fun r_25 H locs hp_26 hG hS o_27 => ?_)
        have at_7 := va_at.keptC at_7 o_27 k_a0 rfl
        have at_20 := va_at.keptC at_20 o_27 k_a2 rfl
        have hp_26 : cellQ gL a1.toInt 1 r_25 := hp_26
        have p_29 := hp_26
        have i_r_25 : r_25.toInt = (gL (6 * a1.toInt + 1).toNat).toInt := cellQ.at p_29 (by omega) (by omega) (by omega) (by omega) (by omega)
        refine lv_aload_n hx hb dX4_mayReplace_41 rfl (lv_at hl 3 rfl) ?_
        refine lv_pc (pc2 := 42) rfl ?_
        refine lv_iconst (v := 1) hx hb dX4_mayReplace_42 (by decide) ?_
        have b_30 : vp_in 1 6 := (q_in (by decide) (by decide))
        refine va_iald hx hb hK (va_one at_20) 0 0 rfl rfl b_30 dX4_mayReplace_43 ?_
        refine lv_topi (fun x_31 e_32 => ?_)
        have w_x_31 : x_31 = gR 1 := by rw [e_32]; rfl
        have i_x_31 : x_31.toInt = (gR 1).toInt := by rw [w_x_31]
        refine lv_icmp_ne (tgt := 51) hx hb dX4_mayReplace_44 (by decide) (fun c_33 => ?_) (fun c_33 => ?_)
        · skip
          have c_33 : r_25.toInt ≠ x_31.toInt := q_ne c_33
          refine lv_iconst (v := 0) hx hb dX4_mayReplace_51 (by decide) ?_
          exact ty_zret hx hb hr hlk rfl hG hS (Or.inr ⟨rfl, (by show ¬ mayR gL gQ gR a1.toInt; exact fun h => by have := h.2.1 (by omega); omega)⟩) dX4_mayReplace_52
        · skip
          have c_33 : r_25.toInt = x_31.toInt := q_eq c_33
          refine lv_iconst (v := 1) hx hb dX4_mayReplace_47 (by decide) ?_
          refine lv_goto (tgt := 52) hx hb dX4_mayReplace_48 (by decide) ?_
          exact ty_zret hx hb hr hlk rfl hG hS (Or.inl ⟨rfl, (by show mayR gL gQ gR a1.toInt; exact ⟨p_18, fun _ => ⟨by omega, by omega⟩, fun q => by exfalso; omega⟩)⟩) dX4_mayReplace_52
    · skip
      refine lv_pc (pc2 := 25) rfl ?_
      refine lv_if_eq (tgt := 51) hx hb dX4_mayReplace_25 (by decide) (fun _ => ?_) (fun q => absurd (by decide) q)
      refine lv_iconst (v := 0) hx hb dX4_mayReplace_51 (by decide) ?_
      exact ty_zret hx hb hr hlk rfl hG hS (Or.inr ⟨rfl, (by show ¬ mayR gL gQ gR a1.toInt; exact fun h => absurd h.1 p_19)⟩) dX4_mayReplace_52
  · skip
    have c_13 : r_8.toInt ≠ 115 := q_ne c_13
    refine lv_aload_n hx hb dX4_mayReplace_13 rfl (lv_at hl 3 rfl) ?_
    refine lv_iconst (v := 0) hx hb dX4_mayReplace_14 (by decide) ?_
    have at_34 := rF_o11 hG k_a2
    have b_35 : vp_in 0 6 := (q_in (by decide) (by decide))
    refine va_iald hx hb hK (va_one at_34) 0 0 rfl rfl b_35 dX4_mayReplace_15 ?_
    refine lv_topi (fun x_36 e_37 => ?_)
    have w_x_36 : x_36 = gR 0 := by rw [e_37]; rfl
    have i_x_36 : x_36.toInt = (gR 0).toInt := by rw [w_x_36]
    refine lv_bipush (v := 115) hx hb dX4_mayReplace_16 (by decide) ?_
    refine lv_icmp_ne (tgt := 53) hx hb dX4_mayReplace_18 (by decide) (fun c_38 => ?_) (fun c_38 => ?_)
    · skip
      have c_38 : x_36.toInt ≠ 115 := q_ne c_38
      refine lv_pc (pc2 := 53) rfl ?_
      refine lv_aload_n hx hb dX4_mayReplace_53 rfl (lv_at hl 3 rfl) ?_
      refine ty_calli (W.runS (As := [.ref a2]) (rest := []) ⟨hx, hb, hml, hown, hts⟩ (v_X4_areNumbersAsTold l D t cI cL cC gC gP gT gR gm gs gg gL gQ gZ gE gV gU gN a2  uq  k_a2) (va_cwS 1 hts gu_vX4_mayReplace_vX4_areNumbersAsTold_62 rfl rfl rfl (by decide +kernel) ⟨Nat.le_of_ble_eq_true rfl, Nat.le_of_ble_eq_true rfl⟩) (tP_S hG hE) rfl rfl hl.1 rfl (lv_room (Nat.le_of_ble_eq_true rfl)) dX4_mayReplace_54 ⟨Nat.le_of_ble_eq_true rfl, Nat.le_of_ble_eq_true rfl⟩) hS (fun _ h => h) (fun r_39 H locs hp_40 hG hS o_41 => ?_)
      have at_7 := va_at.keptC at_7 o_41 k_a0 rfl
      have at_34 := va_at.keptC at_34 o_41 k_a2 rfl
      have hp_40 : (r_39 = 1 ∧ wellR gR) ∨ (r_39 = 0 ∧ ¬ wellR gR) := hp_40
      rcases hp_40 with ⟨rfl, p_43⟩ | ⟨rfl, p_44⟩
      · skip
        refine lv_if_eq (tgt := 100) hx hb dX4_mayReplace_57 (by decide) (fun q => absurd q (by decide)) (fun _ => ?_)
        refine lv_aload_n hx hb dX4_mayReplace_60 rfl (lv_at hl 1 rfl) ?_
        refine lv_aload_n hx hb dX4_mayReplace_61 rfl (lv_at hl 3 rfl) ?_
        refine lv_iload_n hx hb dX4_mayReplace_62 rfl (lv_at hl 2 rfl) ?_
        refine ty_calli (W.runV (As := [.ref a2, .int a1]) (rest := []) ⟨hx, hb, hml, hown, hts⟩ (v_X4_areNamesAhead l D t cI cL cC gC gP gT gR gm gs gg gL gQ gZ gE gV gU gN a0 a2 a1  uq  k_a0 k_a2) (cwV 2 hts gu_vX4_mayReplace_vX4_areNamesAhead_69 rfl rfl rfl (by decide +kernel) ⟨Nat.le_of_ble_eq_true rfl, Nat.le_of_ble_eq_true rfl⟩) (tP_V hG hE at_7 rfl) rfl rfl hl.1 rfl (lv_room (Nat.le_of_ble_eq_true rfl)) dX4_mayReplace_63 ⟨Nat.le_of_ble_eq_true rfl, Nat.le_of_ble_eq_true rfl⟩) hS (fun _ h => h) (fun r_45 H locs hp_46 hG hS o_47 => ?_)
        have at_7 := va_at.keptC at_7 o_47 k_a0 rfl
        have at_34 := va_at.keptC at_34 o_47 k_a2 rfl
        have hp_46 : (r_45 = 1 ∧ nmA gQ gR a1.toInt) ∨ (r_45 = 0 ∧ ¬ nmA gQ gR a1.toInt) := hp_46
        rcases hp_46 with ⟨rfl, p_49⟩ | ⟨rfl, p_50⟩
        · skip
          refine lv_if_eq (tgt := 100) hx hb dX4_mayReplace_66 (by decide) (fun q => absurd q (by decide)) (fun _ => ?_)
          refine lv_pc (pc2 := 69) rfl ?_
          refine lv_iload_n hx hb dX4_mayReplace_69 rfl (lv_at hl 0 rfl) ?_
          refine lv_bipush (v := 103) hx hb dX4_mayReplace_70 (by decide) ?_
          refine lv_icmp_ne (tgt := 79) hx hb dX4_mayReplace_72 (by decide) (fun c_51 => ?_) (fun c_51 => ?_)
          · skip
            have c_51 : r_8.toInt ≠ 103 := q_ne c_51
            refine lv_iconst (v := 0) hx hb dX4_mayReplace_79 (by decide) ?_
            refine lv_aload_n hx hb dX4_mayReplace_80 rfl (lv_at hl 3 rfl) ?_
            refine lv_iconst (v := 0) hx hb dX4_mayReplace_81 (by decide) ?_
            have b_52 : vp_in 0 6 := (q_in (by decide) (by decide))
            refine va_iald hx hb hK (va_one at_34) 0 0 rfl rfl b_52 dX4_mayReplace_82 ?_
            refine lv_seti (y := x_36) e_37.symm ?_
            refine lv_bipush (v := 103) hx hb dX4_mayReplace_83 (by decide) ?_
            refine lv_pc (pc2 := 85) rfl ?_
            refine lv_icmp_ne (tgt := 92) hx hb dX4_mayReplace_85 (by decide) (fun c_53 => ?_) (fun c_53 => ?_)
            · skip
              have c_53 : x_36.toInt ≠ 103 := q_ne c_53
              refine lv_iconst (v := 0) hx hb dX4_mayReplace_92 (by decide) ?_
              refine lv_icmp_ne (tgt := 100) hx hb dX4_mayReplace_93 (by decide) (fun q => absurd rfl q) (fun _ => ?_)
              refine lv_iconst (v := 1) hx hb dX4_mayReplace_96 (by decide) ?_
              refine lv_goto (tgt := 101) hx hb dX4_mayReplace_97 (by decide) ?_
              have zi_1 : (1 : Int32).toInt = 1 := by decide
              exact ty_zret hx hb hr hlk rfl hG hS (Or.inl ⟨rfl, (by show mayR gL gQ gR a1.toInt; exact ⟨p_43, fun q => by exfalso; omega, fun _ => ⟨p_49, ⟨fun q => by omega, fun q => by omega⟩⟩⟩)⟩) dX4_mayReplace_101
            · skip
              have c_53 : x_36.toInt = 103 := q_eq c_53
              refine lv_iconst (v := 1) hx hb dX4_mayReplace_88 (by decide) ?_
              refine lv_goto (tgt := 93) hx hb dX4_mayReplace_89 (by decide) ?_
              refine lv_pc (pc2 := 93) rfl ?_
              refine lv_icmp_ne (tgt := 100) hx hb dX4_mayReplace_93 (by decide) (fun _ => ?_) (fun q => absurd q (by decide))
              refine lv_iconst (v := 0) hx hb dX4_mayReplace_100 (by decide) ?_
              exact ty_zret hx hb hr hlk rfl hG hS (Or.inr ⟨rfl, (by show ¬ mayR gL gQ gR a1.toInt; exact fun h => by have q := (h.2.2 (by omega)).2; first | omega | (have := q.mp (by omega); omega) | (have := q.mpr (by omega); omega))⟩) dX4_mayReplace_101
          · skip
            have c_51 : r_8.toInt = 103 := q_eq c_51
            refine lv_iconst (v := 1) hx hb dX4_mayReplace_75 (by decide) ?_
            refine lv_goto (tgt := 80) hx hb dX4_mayReplace_76 (by decide) ?_
            refine lv_aload_n hx hb dX4_mayReplace_80 rfl (lv_at hl 3 rfl) ?_
            refine lv_iconst (v := 0) hx hb dX4_mayReplace_81 (by decide) ?_
            have b_54 : vp_in 0 6 := (q_in (by decide) (by decide))
            refine va_iald hx hb hK (va_one at_34) 0 0 rfl rfl b_54 dX4_mayReplace_82 ?_
            refine lv_seti (y := x_36) e_37.symm ?_
            refine lv_pc (pc2 := 83) rfl ?_
            refine lv_bipush (v := 103) hx hb dX4_mayReplace_83 (by decide) ?_
            refine lv_icmp_ne (tgt := 92) hx hb dX4_mayReplace_85 (by decide) (fun c_55 => ?_) (fun c_55 => ?_)
            · skip
              have c_55 : x_36.toInt ≠ 103 := q_ne c_55
              refine lv_iconst (v := 0) hx hb dX4_mayReplace_92 (by decide) ?_
              refine lv_icmp_ne (tgt := 100) hx hb dX4_mayReplace_93 (by decide) (fun _ => ?_) (fun q => absurd q (by decide))
              refine lv_iconst (v := 0) hx hb dX4_mayReplace_100 (by decide) ?_
              exact ty_zret hx hb hr hlk rfl hG hS (Or.inr ⟨rfl, (by show ¬ mayR gL gQ gR a1.toInt; exact fun h => by have q := (h.2.2 (by omega)).2; first | omega | (have := q.mp (by omega); omega) | (have := q.mpr (by omega); omega))⟩) dX4_mayReplace_101
            · skip
              have c_55 : x_36.toInt = 103 := q_eq c_55
              refine lv_iconst (v := 1) hx hb dX4_mayReplace_88 (by decide) ?_
              refine lv_goto (tgt := 93) hx hb dX4_mayReplace_89 (by decide) ?_
              refine lv_pc (pc2 := 93) rfl ?_
              refine lv_icmp_ne (tgt := 100) hx hb dX4_mayReplace_93 (by decide) (fun q => absurd rfl q) (fun _ => ?_)
              refine lv_iconst (v := 1) hx hb dX4_mayReplace_96 (by decide) ?_
              refine lv_goto (tgt := 101) hx hb dX4_mayReplace_97 (by decide) ?_
              have zi_1 : (1 : Int32).toInt = 1 := by decide
              exact ty_zret hx hb hr hlk rfl hG hS (Or.inl ⟨rfl, (by show mayR gL gQ gR a1.toInt; exact ⟨p_43, fun q => by exfalso; omega, fun _ => ⟨p_49, ⟨fun q => by omega, fun q => by omega⟩⟩⟩)⟩) dX4_mayReplace_101
        · skip
          refine lv_if_eq (tgt := 100) hx hb dX4_mayReplace_66 (by decide) (fun _ => ?_) (fun q => absurd (by decide) q)
          refine lv_iconst (v := 0) hx hb dX4_mayReplace_100 (by decide) ?_
          exact ty_zret hx hb hr hlk rfl hG hS (Or.inr ⟨rfl, (by show ¬ mayR gL gQ gR a1.toInt; exact fun h => absurd (h.2.2 (by omega)).1 p_50)⟩) dX4_mayReplace_101
      · skip
        refine lv_if_eq (tgt := 100) hx hb dX4_mayReplace_57 (by decide) (fun _ => ?_) (fun q => absurd (by decide) q)
        refine lv_pc (pc2 := 100) rfl ?_
        refine lv_iconst (v := 0) hx hb dX4_mayReplace_100 (by decide) ?_
        exact ty_zret hx hb hr hlk rfl hG hS (Or.inr ⟨rfl, (by show ¬ mayR gL gQ gR a1.toInt; exact fun h => absurd h.1 p_44)⟩) dX4_mayReplace_101
    · skip
      have c_38 : x_36.toInt = 115 := q_eq c_38
      refine lv_aload_n hx hb dX4_mayReplace_21 rfl (lv_at hl 3 rfl) ?_
      refine ty_calli (W.runS (As := [.ref a2]) (rest := []) ⟨hx, hb, hml, hown, hts⟩ (v_X4_areNumbersAsTold l D t cI cL cC gC gP gT gR gm gs gg gL gQ gZ gE gV gU gN a2  uq  k_a2) (va_cwS 1 hts gu_vX4_mayReplace_vX4_areNumbersAsTold_62 rfl rfl rfl (by decide +kernel) ⟨Nat.le_of_ble_eq_true rfl, Nat.le_of_ble_eq_true rfl⟩) (tP_S hG hE) rfl rfl hl.1 rfl (lv_room (Nat.le_of_ble_eq_true rfl)) dX4_mayReplace_22 ⟨Nat.le_of_ble_eq_true rfl, Nat.le_of_ble_eq_true rfl⟩) hS (fun _ h => h) (fun r_56 H locs hp_57 hG hS o_58 => ?_)
      have at_7 := va_at.keptC at_7 o_58 k_a0 rfl
      have at_34 := va_at.keptC at_34 o_58 k_a2 rfl
      have hp_57 : (r_56 = 1 ∧ wellR gR) ∨ (r_56 = 0 ∧ ¬ wellR gR) := hp_57
      rcases hp_57 with ⟨rfl, p_60⟩ | ⟨rfl, p_61⟩
      · skip
        refine lv_if_eq (tgt := 51) hx hb dX4_mayReplace_25 (by decide) (fun q => absurd q (by decide)) (fun _ => ?_)
        refine lv_iload_n hx hb dX4_mayReplace_28 rfl (lv_at hl 0 rfl) ?_
        refine lv_aload_n hx hb dX4_mayReplace_29 rfl (lv_at hl 3 rfl) ?_
        refine lv_iconst (v := 0) hx hb dX4_mayReplace_30 (by decide) ?_
        refine lv_pc (pc2 := 31) rfl ?_
        have b_62 : vp_in 0 6 := (q_in (by decide) (by decide))
        refine va_iald hx hb hK (va_one at_34) 0 0 rfl rfl b_62 dX4_mayReplace_31 ?_
        refine lv_seti (y := x_36) e_37.symm ?_
        refine lv_icmp_ne (tgt := 51) hx hb dX4_mayReplace_32 (by decide) (fun c_63 => ?_) (fun c_63 => ?_)
        · skip
          have c_63 : r_8.toInt ≠ x_36.toInt := q_ne c_63
          refine lv_iconst (v := 0) hx hb dX4_mayReplace_51 (by decide) ?_
          exact ty_zret hx hb hr hlk rfl hG hS (Or.inr ⟨rfl, (by show ¬ mayR gL gQ gR a1.toInt; exact fun h => by have := h.2.1 (by omega); omega)⟩) dX4_mayReplace_52
        · skip
          have c_63 : r_8.toInt = x_36.toInt := q_eq c_63
          refine lv_aload_n hx hb dX4_mayReplace_35 rfl (lv_at hl 1 rfl) ?_
          refine lv_iload_n hx hb dX4_mayReplace_36 rfl (lv_at hl 2 rfl) ?_
          refine lv_iconst (v := 1) hx hb dX4_mayReplace_37 (by decide) ?_
          have zi_1 : (1 : Int32).toInt = 1 := by decide
          refine ty_calli (W.runV (As := [.int a1, .int 1]) (rest := []) ⟨hx, hb, hml, hown, hts⟩ (v_X4_cell l D t cI cL cC gC gP gT gR gm gs gg gL gQ gZ gE gV gU gN a0 a1 1 1 uq (by decide) k_a0) (cwV 2 hts gu_vX4_mayReplace_vX4_cell_73 rfl rfl rfl (by decide +kernel) ⟨Nat.le_of_ble_eq_true rfl, Nat.le_of_ble_eq_true rfl⟩) (tP_V hG hE at_7 rfl) rfl rfl hl.1 rfl (lv_room (Nat.le_of_ble_eq_true rfl)) dX4_mayReplace_38 ⟨Nat.le_of_ble_eq_true rfl, Nat.le_of_ble_eq_true rfl⟩) hS (fun _ h => h) (fun r_64 H locs hp_65 hG hS o_66 => ?_)
          have at_7 := va_at.keptC at_7 o_66 k_a0 rfl
          have at_34 := va_at.keptC at_34 o_66 k_a2 rfl
          have hp_65 : cellQ gL a1.toInt 1 r_64 := hp_65
          have p_68 := hp_65
          have i_r_64 : r_64.toInt = (gL (6 * a1.toInt + 1).toNat).toInt := cellQ.at p_68 (by omega) (by omega) (by omega) (by omega) (by omega)
          refine lv_pc (pc2 := 41) rfl ?_
          refine lv_aload_n hx hb dX4_mayReplace_41 rfl (lv_at hl 3 rfl) ?_
          refine lv_iconst (v := 1) hx hb dX4_mayReplace_42 (by decide) ?_
          have b_69 : vp_in 1 6 := (q_in (by decide) (by decide))
          refine va_iald hx hb hK (va_one at_34) 0 0 rfl rfl b_69 dX4_mayReplace_43 ?_
          refine lv_topi (fun x_70 e_71 => ?_)
          have w_x_70 : x_70 = gR 1 := by rw [e_71]; rfl
          have i_x_70 : x_70.toInt = (gR 1).toInt := by rw [w_x_70]
          refine lv_icmp_ne (tgt := 51) hx hb dX4_mayReplace_44 (by decide) (fun c_72 => ?_) (fun c_72 => ?_)
          · skip
            have c_72 : r_64.toInt ≠ x_70.toInt := q_ne c_72
            refine lv_iconst (v := 0) hx hb dX4_mayReplace_51 (by decide) ?_
            exact ty_zret hx hb hr hlk rfl hG hS (Or.inr ⟨rfl, (by show ¬ mayR gL gQ gR a1.toInt; exact fun h => by have := h.2.1 (by omega); omega)⟩) dX4_mayReplace_52
          · skip
            have c_72 : r_64.toInt = x_70.toInt := q_eq c_72
            refine lv_iconst (v := 1) hx hb dX4_mayReplace_47 (by decide) ?_
            refine lv_goto (tgt := 52) hx hb dX4_mayReplace_48 (by decide) ?_
            refine lv_pc (pc2 := 52) rfl ?_
            exact ty_zret hx hb hr hlk rfl hG hS (Or.inl ⟨rfl, (by show mayR gL gQ gR a1.toInt; exact ⟨p_60, fun _ => ⟨by omega, by omega⟩, fun q => by exfalso; omega⟩)⟩) dX4_mayReplace_52
      · skip
        refine lv_if_eq (tgt := 51) hx hb dX4_mayReplace_25 (by decide) (fun _ => ?_) (fun q => absurd (by decide) q)
        refine lv_iconst (v := 0) hx hb dX4_mayReplace_51 (by decide) ?_
        exact ty_zret hx hb hr hlk rfl hG hS (Or.inr ⟨rfl, (by show ¬ mayR gL gQ gR a1.toInt; exact fun h => absurd h.1 p_61)⟩) dX4_mayReplace_52

def uc2X4_copyFrom : List Cond := .code yX4_copyFrom cX4_copyFrom 2 none :: ([.fieldLink RX4 9 "RiverModel$Model" "cells" "[I", .methodLink RX4 37 arraycopyName, .native arraycopyName, .static arraycopyName, .initialized "java/lang/System", .fieldLink RX4 15 "RiverModel$Model" "storeItems" "[I", .fieldLink RX4 18 "RiverModel$Model" "gateItems" "[I", .fieldLink RX4 21 "RiverModel$Model" "many" "I", .fieldLink RX4 25 "RiverModel$Model" "stores" "I", .fieldLink RX4 28 "RiverModel$Model" "gates" "I"] ++ wsX40)
set_option maxHeartbeats 4000000 in
set_option maxRecDepth 100000 in
theorem c2_X4_copyFrom (l : Launch) (D : va_G) (t : Nat → Nat) (cI cL cC : ClassId) (um : Int32) (us : Int32) (ug : Int32) (uL : Nat → Int32) (uQ : Nat → Int32) (uZ : Nat → Int32) (vm : Int32) (vs : Int32) (vg : Int32) (vL0 : Nat → Int32) (vQ : Nat → Int32) (vZ : Nat → Int32) (a0 : Nat) (a1 : Nat) (uq : ∀ b c : Nat, t b = t c → t b ≠ 0 → b = c) (k_a0 : t a0 = 3) (k_a1 : t a1 = 37) : tMx (Z := (Int32) × (Int32) × (Int32) × (Nat → Int32) × (Nat → Int32) × (Nat → Int32)) l yX4_copyFrom uc2X4_copyFrom 1 60 D (c2F cI cL cC um us ug uL uQ uZ vm vs vg vL0 vQ vZ) (fun z => (c2F cI cL cC z.1 z.2.1 z.2.2.1 z.2.2.2.1 z.2.2.2.2.1 z.2.2.2.2.2 vm vs vg vL0 vQ vZ)) t cI cL cC [.ref a0, .ref a1] c2w (xV (fun (z : (Int32) × (Int32) × (Int32) × (Nat → Int32) × (Nat → Int32) × (Nat → Int32)) => (∀ j : Nat, j < 240 → z.2.2.2.1 j = vL0 j) ∧ (∀ j : Nat, j < 16 → z.2.2.2.2.1 j = vQ j) ∧ (∀ j : Nat, j < 4 → z.2.2.2.2.2 j = vZ j) ∧ z.1.toInt = vm.toInt ∧ z.2.1.toInt = vs.toInt ∧ z.2.2.1.toInt = vg.toInt)) := by
  refine tMx.ofW (cc := cX4_copyFrom) (maxL := 2) (ret := none) (by decide) rfl (Nat.le_of_ble_eq_true rfl) ?_
  intro p e s m below meth c hx hb hr hml hown hts hlk H locs hG hK hE hS ls hl
  have hl : lv_has ls 2 [(0, .ref a0), (1, .ref a1)] := hl
  have in4 : ∀ w ∈ wsX40, w ∈ uc2X4_copyFrom := fun w h => List.mem_cons_of_mem _ (List.mem_append_right _ h)
  refine lv_aload_n hx hb dX4_copyFrom_0 rfl (lv_at hl 1 rfl) ?_
  obtain ⟨r_1, r_3, r_5, at_7, h_2, h_4, h_6⟩ := c2F_o37 hG k_a1
  refine va_get (D := D) (ci := 3) (v := .ref r_1) (C := RX4) (T := TX4) (N := 6) hx hb hts in4 hown hK (va_one at_7) 0 rfl rfl 0 (by decide) (hts (.fieldLink RX4 9 "RiverModel$Model" "cells" "[I") (List.mem_of_getElem? (i := 1) rfl)) (fun _ h9 => h9) rfl dX4_copyFrom_1 ?_
  refine lv_iconst (v := 0) hx hb dX4_copyFrom_4 (by decide) ?_
  refine lv_aload_n hx hb dX4_copyFrom_5 rfl (lv_at hl 0 rfl) ?_
  obtain ⟨r_8, r_10, r_12, at_14, h_9, h_11, h_13⟩ := c2F_o3 hG k_a0
  refine va_get (D := D) (ci := 3) (v := .ref r_8) (C := RX4) (T := TX4) (N := 6) hx hb hts in4 hown hK (va_one at_14) 0 rfl rfl 0 (by decide) (hts (.fieldLink RX4 9 "RiverModel$Model" "cells" "[I") (List.mem_of_getElem? (i := 1) rfl)) (fun _ h9 => h9) rfl dX4_copyFrom_6 ?_
  refine lv_iconst (v := 0) hx hb dX4_copyFrom_9 (by decide) ?_
  refine lv_aload_n hx hb dX4_copyFrom_10 rfl (lv_at hl 0 rfl) ?_
  refine lv_pc (pc2 := 11) rfl ?_
  refine va_get (D := D) (ci := 3) (v := .ref r_8) (C := RX4) (T := TX4) (N := 6) hx hb hts in4 hown hK (va_one at_14) 0 rfl rfl 0 (by decide) (hts (.fieldLink RX4 9 "RiverModel$Model" "cells" "[I") (List.mem_of_getElem? (i := 1) rfl)) (fun _ h9 => h9) rfl dX4_copyFrom_11 ?_
  have at_15 := c2F_o12 hG h_9
  refine va_alen (v := 240) hx hb hK (va_one at_15) 0 0 rfl rfl rfl dX4_copyFrom_14 ?_
  have at_16 := c2F_o38 hG h_2
  refine ty_copyi hx hb (by rw [hml]; exact hl.1.symm) hown (hts (.methodLink RX4 37 arraycopyName) (List.mem_of_getElem? (i := 2) rfl)) (hts (.native arraycopyName) (List.mem_of_getElem? (i := 3) rfl)) (hts (.static arraycopyName) (List.mem_of_getElem? (i := 4) rfl)) (hts (.initialized "java/lang/System") (List.mem_of_getElem? (i := 5) rfl)) hK at_16 at_15 (by decide) (by decide) (by decide) (by decide) (by decide) (Nat.le_of_ble_eq_true rfl) (Nat.le_of_ble_eq_true rfl) dX4_copyFrom_15 (fun H L at_17 hz_19 o_18 hL_20 => ?_)
  obtain ⟨g_21, eg_21⟩ : ∃ q : Nat → Int32, q = va_cpy vL0 uL (0 : Int32).toNatClampNeg (0 : Int32).toNatClampNeg (240 : Int32).toNatClampNeg := ⟨_, rfl⟩
  rw [← eg_21] at at_17
  replace hG : tG D (c2F cI cL cC um us ug g_21 uQ uZ vm vs vg vL0 vQ vZ) t H := tG.setx hG at_17 (by rw [h_9]; exact rfl) (fun hG b hb h0 => by obtain ⟨e, g1, g2⟩ := hG b h0; exact ⟨e, g1, c2F_uL (fun h => hb (uq b r_8 (h.trans h_9.symm) h0)) g2⟩) o_18
  replace hS := tF.row hS hz_19 o_18 hL_20 (by rw [h_9]; rfl)
  generalize _ ++ L = locs at hS ⊢
  have at_7 := va_at.keptK at_7 o_18 h_9 k_a1 rfl
  have at_14 := va_at.keptK at_14 o_18 h_9 k_a0 rfl
  have at_16 := va_at.keptK at_16 o_18 h_9 h_2 rfl
  refine lv_aload_n hx hb dX4_copyFrom_18 rfl (lv_at hl 1 rfl) ?_
  refine va_get (D := D) (ci := 3) (v := .ref r_3) (C := RX4) (T := TX4) (N := 6) hx hb hts in4 hown hK (va_one at_7) 0 rfl rfl 1 (by decide) (hts (.fieldLink RX4 15 "RiverModel$Model" "storeItems" "[I") (List.mem_of_getElem? (i := 6) rfl)) (fun _ h9 => h9) rfl dX4_copyFrom_19 ?_
  refine lv_iconst (v := 0) hx hb dX4_copyFrom_22 (by decide) ?_
  refine lv_aload_n hx hb dX4_copyFrom_23 rfl (lv_at hl 0 rfl) ?_
  refine va_get (D := D) (ci := 3) (v := .ref r_10) (C := RX4) (T := TX4) (N := 6) hx hb hts in4 hown hK (va_one at_14) 0 rfl rfl 1 (by decide) (hts (.fieldLink RX4 15 "RiverModel$Model" "storeItems" "[I") (List.mem_of_getElem? (i := 6) rfl)) (fun _ h9 => h9) rfl dX4_copyFrom_24 ?_
  refine lv_pc (pc2 := 27) rfl ?_
  refine lv_iconst (v := 0) hx hb dX4_copyFrom_27 (by decide) ?_
  refine lv_bipush (v := 16) hx hb dX4_copyFrom_28 (by decide) ?_
  have at_22 := c2F_o39 hG h_4
  have at_23 := c2F_o13 hG h_11
  refine ty_copyi hx hb (by rw [hml]; exact hl.1.symm) hown (hts (.methodLink RX4 37 arraycopyName) (List.mem_of_getElem? (i := 2) rfl)) (hts (.native arraycopyName) (List.mem_of_getElem? (i := 3) rfl)) (hts (.static arraycopyName) (List.mem_of_getElem? (i := 4) rfl)) (hts (.initialized "java/lang/System") (List.mem_of_getElem? (i := 5) rfl)) hK at_22 at_23 (by decide) (by decide) (by decide) (by decide) (by decide) (Nat.le_of_ble_eq_true rfl) (Nat.le_of_ble_eq_true rfl) dX4_copyFrom_30 (fun H L at_24 hz_26 o_25 hL_27 => ?_)
  obtain ⟨g_28, eg_28⟩ : ∃ q : Nat → Int32, q = va_cpy vQ uQ (0 : Int32).toNatClampNeg (0 : Int32).toNatClampNeg (16 : Int32).toNatClampNeg := ⟨_, rfl⟩
  rw [← eg_28] at at_24
  replace hG : tG D (c2F cI cL cC um us ug g_21 g_28 uZ vm vs vg vL0 vQ vZ) t H := tG.setx hG at_24 (by rw [h_11]; exact rfl) (fun hG b hb h0 => by obtain ⟨e, g1, g2⟩ := hG b h0; exact ⟨e, g1, c2F_uQ (fun h => hb (uq b r_10 (h.trans h_11.symm) h0)) g2⟩) o_25
  replace hS := tF.row hS hz_26 o_25 hL_27 (by rw [h_11]; rfl)
  generalize _ ++ L = locs at hS ⊢
  have at_7 := va_at.keptK at_7 o_25 h_11 k_a1 rfl
  have at_14 := va_at.keptK at_14 o_25 h_11 k_a0 rfl
  have at_16 := va_at.keptK at_16 o_25 h_11 h_2 rfl
  have at_22 := va_at.keptK at_22 o_25 h_11 h_4 rfl
  refine lv_aload_n hx hb dX4_copyFrom_33 rfl (lv_at hl 1 rfl) ?_
  refine va_get (D := D) (ci := 3) (v := .ref r_5) (C := RX4) (T := TX4) (N := 6) hx hb hts in4 hown hK (va_one at_7) 0 rfl rfl 2 (by decide) (hts (.fieldLink RX4 18 "RiverModel$Model" "gateItems" "[I") (List.mem_of_getElem? (i := 7) rfl)) (fun _ h9 => h9) rfl dX4_copyFrom_34 ?_
  refine lv_iconst (v := 0) hx hb dX4_copyFrom_37 (by decide) ?_
  refine lv_aload_n hx hb dX4_copyFrom_38 rfl (lv_at hl 0 rfl) ?_
  refine va_get (D := D) (ci := 3) (v := .ref r_12) (C := RX4) (T := TX4) (N := 6) hx hb hts in4 hown hK (va_one at_14) 0 rfl rfl 2 (by decide) (hts (.fieldLink RX4 18 "RiverModel$Model" "gateItems" "[I") (List.mem_of_getElem? (i := 7) rfl)) (fun _ h9 => h9) rfl dX4_copyFrom_39 ?_
  refine lv_pc (pc2 := 42) rfl ?_
  refine lv_iconst (v := 0) hx hb dX4_copyFrom_42 (by decide) ?_
  refine lv_iconst (v := 4) hx hb dX4_copyFrom_43 (by decide) ?_
  have at_29 := c2F_o40 hG h_6
  have at_30 := c2F_o14 hG h_13
  refine ty_copyi hx hb (by rw [hml]; exact hl.1.symm) hown (hts (.methodLink RX4 37 arraycopyName) (List.mem_of_getElem? (i := 2) rfl)) (hts (.native arraycopyName) (List.mem_of_getElem? (i := 3) rfl)) (hts (.static arraycopyName) (List.mem_of_getElem? (i := 4) rfl)) (hts (.initialized "java/lang/System") (List.mem_of_getElem? (i := 5) rfl)) hK at_29 at_30 (by decide) (by decide) (by decide) (by decide) (by decide) (Nat.le_of_ble_eq_true rfl) (Nat.le_of_ble_eq_true rfl) dX4_copyFrom_44 (fun H L at_31 hz_33 o_32 hL_34 => ?_)
  obtain ⟨g_35, eg_35⟩ : ∃ q : Nat → Int32, q = va_cpy vZ uZ (0 : Int32).toNatClampNeg (0 : Int32).toNatClampNeg (4 : Int32).toNatClampNeg := ⟨_, rfl⟩
  rw [← eg_35] at at_31
  replace hG : tG D (c2F cI cL cC um us ug g_21 g_28 g_35 vm vs vg vL0 vQ vZ) t H := tG.setx hG at_31 (by rw [h_13]; exact rfl) (fun hG b hb h0 => by obtain ⟨e, g1, g2⟩ := hG b h0; exact ⟨e, g1, c2F_uZ (fun h => hb (uq b r_12 (h.trans h_13.symm) h0)) g2⟩) o_32
  replace hS := tF.row hS hz_33 o_32 hL_34 (by rw [h_13]; rfl)
  generalize _ ++ L = locs at hS ⊢
  have at_7 := va_at.keptK at_7 o_32 h_13 k_a1 rfl
  have at_14 := va_at.keptK at_14 o_32 h_13 k_a0 rfl
  have at_16 := va_at.keptK at_16 o_32 h_13 h_2 rfl
  have at_22 := va_at.keptK at_22 o_32 h_13 h_4 rfl
  have at_29 := va_at.keptK at_29 o_32 h_13 h_6 rfl
  refine lv_aload_n hx hb dX4_copyFrom_47 rfl (lv_at hl 0 rfl) ?_
  refine lv_aload_n hx hb dX4_copyFrom_48 rfl (lv_at hl 1 rfl) ?_
  refine va_get (D := D) (ci := 3) (v := .int vm) (C := RX4) (T := TX4) (N := 6) hx hb hts in4 hown hK (va_one at_7) 0 rfl rfl 3 (by decide) (hts (.fieldLink RX4 21 "RiverModel$Model" "many" "I") (List.mem_of_getElem? (i := 8) rfl)) (fun _ h9 => h9) rfl dX4_copyFrom_49 ?_
  refine ty_put (D := D) (ci := 3) (v := .int vm) (ty := .int) (C := RX4) (T := TX4) (N := 6) (F2 := (c2F cI cL cC vm us ug g_21 g_28 g_35 vm vs vg vL0 vQ vZ)) hx hb hts in4 tyX4 tyX4_ok nmX4 hown hK hG hS at_14 (by rw [k_a0]; rfl) rfl 3 (by decide) (hts (.fieldLink RX4 21 "RiverModel$Model" "many" "I") (List.mem_of_getElem? (i := 8) rfl)) (fun _ h9 => h9) rfl (by decide +kernel) rfl rfl (Nat.le_of_ble_eq_true rfl) (by rw [k_a0]; exact ⟨r_8, r_10, r_12, rfl, h_9, h_11, h_13⟩) (fun hG b hb h0 => by obtain ⟨e, g1, g2⟩ := hG b h0; exact ⟨e, g1, c2F_um (fun h => hb (uq b a0 (h.trans k_a0.symm) h0)) g2⟩) dX4_copyFrom_52 (fun H locs hG hS at_36 o_37 => ?_)
  have at_36 : va_at D vwCl (a0, .inr (3, [.ref r_8, .ref r_10, .ref r_12, .int vm, .int us, .int ug])) H := at_36
  have at_7 := va_at.keptK at_7 o_37 k_a0 k_a1 rfl
  have at_16 := va_at.keptK at_16 o_37 k_a0 h_2 rfl
  have at_22 := va_at.keptK at_22 o_37 k_a0 h_4 rfl
  have at_29 := va_at.keptK at_29 o_37 k_a0 h_6 rfl
  refine lv_aload_n hx hb dX4_copyFrom_55 rfl (lv_at hl 0 rfl) ?_
  refine lv_pc (pc2 := 56) rfl ?_
  refine lv_aload_n hx hb dX4_copyFrom_56 rfl (lv_at hl 1 rfl) ?_
  refine va_get (D := D) (ci := 3) (v := .int vs) (C := RX4) (T := TX4) (N := 6) hx hb hts in4 hown hK (va_one at_7) 0 rfl rfl 4 (by decide) (hts (.fieldLink RX4 25 "RiverModel$Model" "stores" "I") (List.mem_of_getElem? (i := 9) rfl)) (fun _ h9 => h9) rfl dX4_copyFrom_57 ?_
  refine ty_put (D := D) (ci := 3) (v := .int vs) (ty := .int) (C := RX4) (T := TX4) (N := 6) (F2 := (c2F cI cL cC vm vs ug g_21 g_28 g_35 vm vs vg vL0 vQ vZ)) hx hb hts in4 tyX4 tyX4_ok nmX4 hown hK hG hS at_36 (by rw [k_a0]; rfl) rfl 4 (by decide) (hts (.fieldLink RX4 25 "RiverModel$Model" "stores" "I") (List.mem_of_getElem? (i := 9) rfl)) (fun _ h9 => h9) rfl (by decide +kernel) rfl rfl (Nat.le_of_ble_eq_true rfl) (by rw [k_a0]; exact ⟨r_8, r_10, r_12, rfl, h_9, h_11, h_13⟩) (fun hG b hb h0 => by obtain ⟨e, g1, g2⟩ := hG b h0; exact ⟨e, g1, c2F_us (fun h => hb (uq b a0 (h.trans k_a0.symm) h0)) g2⟩) dX4_copyFrom_60 (fun H locs hG hS at_38 o_39 => ?_)
  have at_38 : va_at D vwCl (a0, .inr (3, [.ref r_8, .ref r_10, .ref r_12, .int vm, .int vs, .int ug])) H := at_38
  have at_7 := va_at.keptK at_7 o_39 k_a0 k_a1 rfl
  have at_16 := va_at.keptK at_16 o_39 k_a0 h_2 rfl
  have at_22 := va_at.keptK at_22 o_39 k_a0 h_4 rfl
  have at_29 := va_at.keptK at_29 o_39 k_a0 h_6 rfl
  refine lv_aload_n hx hb dX4_copyFrom_63 rfl (lv_at hl 0 rfl) ?_
  refine lv_aload_n hx hb dX4_copyFrom_64 rfl (lv_at hl 1 rfl) ?_
  refine va_get (D := D) (ci := 3) (v := .int vg) (C := RX4) (T := TX4) (N := 6) hx hb hts in4 hown hK (va_one at_7) 0 rfl rfl 5 (by decide) (hts (.fieldLink RX4 28 "RiverModel$Model" "gates" "I") (List.mem_of_getElem? (i := 10) rfl)) (fun _ h9 => h9) rfl dX4_copyFrom_65 ?_
  refine ty_put (D := D) (ci := 3) (v := .int vg) (ty := .int) (C := RX4) (T := TX4) (N := 6) (F2 := (c2F cI cL cC vm vs vg g_21 g_28 g_35 vm vs vg vL0 vQ vZ)) hx hb hts in4 tyX4 tyX4_ok nmX4 hown hK hG hS at_38 (by rw [k_a0]; rfl) rfl 5 (by decide) (hts (.fieldLink RX4 28 "RiverModel$Model" "gates" "I") (List.mem_of_getElem? (i := 10) rfl)) (fun _ h9 => h9) rfl (by decide +kernel) rfl rfl (Nat.le_of_ble_eq_true rfl) (by rw [k_a0]; exact ⟨r_8, r_10, r_12, rfl, h_9, h_11, h_13⟩) (fun hG b hb h0 => by obtain ⟨e, g1, g2⟩ := hG b h0; exact ⟨e, g1, c2F_ug (fun h => hb (uq b a0 (h.trans k_a0.symm) h0)) g2⟩) dX4_copyFrom_68 (fun H locs hG hS at_40 o_41 => ?_)
  have at_40 : va_at D vwCl (a0, .inr (3, [.ref r_8, .ref r_10, .ref r_12, .int vm, .int vs, .int vg])) H := at_40
  have at_7 := va_at.keptK at_7 o_41 k_a0 k_a1 rfl
  have at_16 := va_at.keptK at_16 o_41 k_a0 h_2 rfl
  have at_22 := va_at.keptK at_22 o_41 k_a0 h_4 rfl
  have at_29 := va_at.keptK at_29 o_41 k_a0 h_6 rfl
  exact tx_vret (z := (vm, vs, vg, g_21, g_28, g_35)) hx hb hr hlk hG hS ⟨(fun j hj => by rw [eg_21]; exact cpy_at hj), (fun j hj => by rw [eg_28]; exact cpy_at hj), (fun j hj => by rw [eg_35]; exact cpy_at hj), (by show vm.toInt = vm.toInt; omega), (by show vs.toInt = vs.toInt; omega), (by show vg.toInt = vg.toInt; omega)⟩ dX4_copyFrom_71
