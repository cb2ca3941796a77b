set_option maxRecDepth 20000 in
theorem ggX5_init_X0_init : GoodIn wsX5_init wsX0_init := goodIn_r _ [19, 20, 2, 3, 21, 22, 23, 6, 24, 25, 26, 27, 28, 29, 40, 41, 42, 43, 44, 45, 46, 47] (by decide +kernel) (by decide +kernel)
set_option maxRecDepth 20000 in
theorem gX5_init_X0_init_n48 : GoodIn wsX5_init (wsX0_init) := ggX5_init_X0_init
theorem dX5_init_0 : decode cX5_init 0 = .ok (.aload_n 0, 1) := by decide +kernel
theorem dX5_init_1 : decode cX5_init 1 = .ok (.invokespecial 3, 3) := by decide +kernel
theorem dX5_init_4 : decode cX5_init 4 = .ok (.aload_n 0, 1) := by decide +kernel
theorem dX5_init_5 : decode cX5_init 5 = .ok (.iconst 4, 1) := by decide +kernel
theorem dX5_init_6 : decode cX5_init 6 = .ok (.anewarray 9, 3) := by decide +kernel
theorem dX5_init_9 : decode cX5_init 9 = .ok (.putfield 11, 3) := by decide +kernel
theorem dX5_init_12 : decode cX5_init 12 = .ok (.aload_n 0, 1) := by decide +kernel
theorem dX5_init_13 : decode cX5_init 13 = .ok (.iconst 4, 1) := by decide +kernel
theorem dX5_init_14 : decode cX5_init 14 = .ok (.newarray .int, 2) := by decide +kernel
theorem dX5_init_16 : decode cX5_init 16 = .ok (.putfield 17, 3) := by decide +kernel
theorem dX5_init_19 : decode cX5_init 19 = .ok (.aload_n 0, 1) := by decide +kernel
theorem dX5_init_20 : decode cX5_init 20 = .ok (.iconst 4, 1) := by decide +kernel
theorem dX5_init_21 : decode cX5_init 21 = .ok (.newarray .int, 2) := by decide +kernel
theorem dX5_init_23 : decode cX5_init 23 = .ok (.putfield 21, 3) := by decide +kernel
theorem dX5_init_26 : decode cX5_init 26 = .ok (.aload_n 0, 1) := by decide +kernel
theorem dX5_init_27 : decode cX5_init 27 = .ok (.iconst 0, 1) := by decide +kernel
theorem dX5_init_28 : decode cX5_init 28 = .ok (.putfield 24, 3) := by decide +kernel
theorem dX5_init_31 : decode cX5_init 31 = .ok (.aload_n 0, 1) := by decide +kernel
theorem dX5_init_32 : decode cX5_init 32 = .ok (.lconst 0, 1) := by decide +kernel
theorem dX5_init_33 : decode cX5_init 33 = .ok (.putfield 28, 3) := by decide +kernel
theorem dX5_init_36 : decode cX5_init 36 = .ok (.aload_n 0, 1) := by decide +kernel
theorem dX5_init_37 : decode cX5_init 37 = .ok (.iconst 0, 1) := by decide +kernel
theorem dX5_init_38 : decode cX5_init 38 = .ok (.putfield 32, 3) := by decide +kernel
theorem dX5_init_41 : decode cX5_init 41 = .ok (.aload_n 0, 1) := by decide +kernel
theorem dX5_init_42 : decode cX5_init 42 = .ok (.iconst 0, 1) := by decide +kernel
theorem dX5_init_43 : decode cX5_init 43 = .ok (.putfield 36, 3) := by decide +kernel
theorem dX5_init_46 : decode cX5_init 46 = .ok (.aload_n 0, 1) := by decide +kernel
theorem dX5_init_47 : decode cX5_init 47 = .ok (.iconst 0, 1) := by decide +kernel
theorem dX5_init_48 : decode cX5_init 48 = .ok (.putfield 39, 3) := by decide +kernel
theorem dX5_init_51 : decode cX5_init 51 = .ok (.aload_n 0, 1) := by decide +kernel
theorem dX5_init_52 : decode cX5_init 52 = .ok (.iconst 0, 1) := by decide +kernel
theorem dX5_init_53 : decode cX5_init 53 = .ok (.putfield 42, 3) := by decide +kernel
theorem dX5_init_56 : decode cX5_init 56 = .ok (.aload_n 0, 1) := by decide +kernel
theorem dX5_init_57 : decode cX5_init 57 = .ok (.lconst 0, 1) := by decide +kernel
theorem dX5_init_58 : decode cX5_init 58 = .ok (.putfield 45, 3) := by decide +kernel
theorem dX5_init_61 : decode cX5_init 61 = .ok (.iconst 0, 1) := by decide +kernel
theorem dX5_init_62 : decode cX5_init 62 = .ok (.istore_n 1, 1) := by decide +kernel
theorem dX5_init_63 : decode cX5_init 63 = .ok (.iload_n 1, 1) := by decide +kernel
theorem dX5_init_64 : decode cX5_init 64 = .ok (.iconst 4, 1) := by decide +kernel
theorem dX5_init_65 : decode cX5_init 65 = .ok (.if_icmp .ge 22, 3) := by decide +kernel
theorem dX5_init_68 : decode cX5_init 68 = .ok (.aload_n 0, 1) := by decide +kernel
theorem dX5_init_69 : decode cX5_init 69 = .ok (.getfield 11, 3) := by decide +kernel
theorem dX5_init_72 : decode cX5_init 72 = .ok (.iload_n 1, 1) := by decide +kernel
theorem dX5_init_73 : decode cX5_init 73 = .ok (.new 9, 3) := by decide +kernel
theorem dX5_init_76 : decode cX5_init 76 = .ok (.dup, 1) := by decide +kernel
theorem dX5_init_77 : decode cX5_init 77 = .ok (.invokespecial 48, 3) := by decide +kernel
theorem dX5_init_80 : decode cX5_init 80 = .ok (.aastore, 1) := by decide +kernel
theorem dX5_init_81 : decode cX5_init 81 = .ok (.iinc 1 1, 3) := by decide +kernel
theorem dX5_init_84 : decode cX5_init 84 = .ok (.goto (-21), 3) := by decide +kernel
theorem dX5_init_87 : decode cX5_init 87 = .ok (.return_, 1) := by decide +kernel
set_option maxHeartbeats 4000000 in
set_option maxRecDepth 100000 in
theorem cc_X5 (l : Launch) (D : va_G) (cI cL cC : ClassId) (h0 : Nat) : Met l yX5_init wsX5_init ({ frames := 2, cells := 23, slots := 1116, locals := 32 }) (cP D cI cL cC 4 [.null, .null, .null, .int 0, .long 0, .int 0, .int 0, .int 0, .int 0, .long 0] h0) (cQ D (gF cI cL cC 0 0 0 (fun _ => 0) (fun _ => 0)) [9, 32, 33, 34, 5, 17, 18, 19, 20, 5, 17, 18, 19, 20, 5, 17, 18, 19, 20, 5, 17, 18, 19, 20] h0) 23 1116 (fun q => h0 ≤ q) := by
  refine cM_ofW (cc := cX5_init) (maxL := 2) (by decide) rfl rfl (by decide) ?_
  intro p e s m below meth c hx hb hr hml hown hts hlk hin hz at0 hK hE hS ls hl
  have hl : lv_has ls 2 [(0, .ref h0)] := hl
  have in5 : ∀ w ∈ wsX50, w ∈ wsX5_init := fun w h => List.mem_cons_of_mem _ (List.mem_append_left _ (List.mem_append_right _ h))
  have in0 : ∀ w ∈ wsX00, w ∈ wsX5_init := fun w h => List.mem_cons_of_mem _ (List.mem_append_right _ h)
  refine lv_aload_n hx hb dX5_init_0 rfl (lv_at hl 0 rfl) ?_
  refine W.objInit hx hb hown (hts (.methodLink RX5 3 objectInit) (List.mem_of_getElem? (i := 1) rfl)) (hts (.instanceMethod objectInit) (List.mem_of_getElem? (i := 2) rfl)) (hts (.code objectInit ⟨#[0xb1]⟩ 1 none) (List.mem_of_getElem? (i := 3) rfl)) rfl (by rw [hml]; exact hl.1) rfl dX5_init_1 (Nat.le_of_ble_eq_true rfl) (Nat.le_of_ble_eq_true rfl) ?_
  refine W.eq (g2 := F0 m 4 ls []) rfl ?_
  refine lv_aload_n hx hb dX5_init_4 rfl (lv_at hl 0 rfl) ?_
  refine lv_iconst (v := 4) hx hb dX5_init_5 (by decide) ?_
  refine nw_newq (N := 4) (z := h0 + 1) hx hb hown (hts (.classLink RX5 9 RX0) (List.mem_of_getElem? (i := 4) rfl)) hE hS hz (Nat.le_add_right _ _) (by decide) (by decide) (by decide) (Nat.le_of_ble_eq_true rfl) (Nat.le_of_ble_eq_true rfl) dX5_init_6 (fun H at_1 hz o_2 hS => ?_)
  replace at0 := va_at.keptA (b := h0) (z := 1) 0 at0 o_2 (Nat.le_of_ble_eq_true rfl)
  clear o_2
  have hz : H.size = h0 + 2 := hz
  refine nw_putF (D := D) (ci := 4) (v := .ref (h0 + 1)) (ty := .array (.object "RiverModel$Course")) (C := RX5) (T := TX5) (N := 10) hx hb hts in5 tyX5 tyX5_ok nmX5 hown hK hS (Nat.le_refl _) at0 rfl 0 (by decide) (hts (.fieldLink RX5 11 "RiverModel$Search" "blockEnds" "[LRiverModel$Course;") (List.mem_of_getElem? (i := 5) rfl)) (fun _ h9 => h9) rfl hin rfl (by decide +kernel) rfl rfl (Nat.le_of_ble_eq_true rfl) dX5_init_9 (fun H locs at0 hz_4 o_3 hS => ?_)
  have at0 : va_at D vwCl (h0, .inr (4, [.ref (h0 + 1), .null, .null, .int 0, .long 0, .int 0, .int 0, .int 0, .int 0, .long 0])) H := at0
  replace hz : H.size = h0 + 2 := hz_4.trans hz
  replace at_1 := va_at.keptP (b := h0) (j := 0) 1 at_1 o_3 rfl
  clear o_3 hz_4
  refine lv_aload_n hx hb dX5_init_12 rfl (lv_at hl 0 rfl) ?_
  refine lv_pc (pc2 := 13) rfl ?_
  refine lv_iconst (v := 4) hx hb dX5_init_13 (by decide) ?_
  refine nw_newI (N := 4) (z := h0 + 2) hx hb (hts (.arrayClass .int) (List.mem_of_getElem? (i := 6) rfl)) hK hS hz (Nat.le_add_right _ _) (by decide) (by decide) (by decide) (Nat.le_of_ble_eq_true rfl) (Nat.le_of_ble_eq_true rfl) dX5_init_14 (fun H at_5 hz o_6 hS => ?_)
  replace at0 := va_at.keptA (b := h0) (z := 2) 0 at0 o_6 (Nat.le_of_ble_eq_true rfl)
  replace at_1 := va_at.keptA (b := h0) (z := 2) 1 at_1 o_6 (Nat.le_of_ble_eq_true rfl)
  clear o_6
  have hz : H.size = h0 + 3 := hz
  refine nw_putF (D := D) (ci := 4) (v := .ref (h0 + 2)) (ty := .array .int) (C := RX5) (T := TX5) (N := 10) hx hb hts in5 tyX5 tyX5_ok nmX5 hown hK hS (Nat.le_refl _) at0 rfl 1 (by decide) (hts (.fieldLink RX5 17 "RiverModel$Search" "tried" "[I") (List.mem_of_getElem? (i := 7) rfl)) (fun _ h9 => h9) rfl hin rfl (by decide +kernel) rfl rfl (Nat.le_of_ble_eq_true rfl) dX5_init_16 (fun H locs at0 hz_8 o_7 hS => ?_)
  have at0 : va_at D vwCl (h0, .inr (4, [.ref (h0 + 1), .ref (h0 + 2), .null, .int 0, .long 0, .int 0, .int 0, .int 0, .int 0, .long 0])) H := at0
  replace hz : H.size = h0 + 3 := hz_8.trans hz
  replace at_1 := va_at.keptP (b := h0) (j := 0) 1 at_1 o_7 rfl
  replace at_5 := va_at.keptP (b := h0) (j := 0) 2 at_5 o_7 rfl
  clear o_7 hz_8
  refine lv_aload_n hx hb dX5_init_19 rfl (lv_at hl 0 rfl) ?_
  refine lv_iconst (v := 4) hx hb dX5_init_20 (by decide) ?_
  refine nw_newI (N := 4) (z := h0 + 3) hx hb (hts (.arrayClass .int) (List.mem_of_getElem? (i := 6) rfl)) hK hS hz (Nat.le_add_right _ _) (by decide) (by decide) (by decide) (Nat.le_of_ble_eq_true rfl) (Nat.le_of_ble_eq_true rfl) dX5_init_21 (fun H at_9 hz o_10 hS => ?_)
  replace at0 := va_at.keptA (b := h0) (z := 3) 0 at0 o_10 (Nat.le_of_ble_eq_true rfl)
  replace at_1 := va_at.keptA (b := h0) (z := 3) 1 at_1 o_10 (Nat.le_of_ble_eq_true rfl)
  replace at_5 := va_at.keptA (b := h0) (z := 3) 2 at_5 o_10 (Nat.le_of_ble_eq_true rfl)
  clear o_10
  have hz : H.size = h0 + 4 := hz
  refine nw_putF (D := D) (ci := 4) (v := .ref (h0 + 3)) (ty := .array .int) (C := RX5) (T := TX5) (N := 10) hx hb hts in5 tyX5 tyX5_ok nmX5 hown hK hS (Nat.le_refl _) at0 rfl 2 (by decide) (hts (.fieldLink RX5 21 "RiverModel$Search" "found" "[I") (List.mem_of_getElem? (i := 8) rfl)) (fun _ h9 => h9) rfl hin rfl (by decide +kernel) rfl rfl (Nat.le_of_ble_eq_true rfl) dX5_init_23 (fun H locs at0 hz_12 o_11 hS => ?_)
  have at0 : va_at D vwCl (h0, .inr (4, [.ref (h0 + 1), .ref (h0 + 2), .ref (h0 + 3), .int 0, .long 0, .int 0, .int 0, .int 0, .int 0, .long 0])) H := at0
  replace hz : H.size = h0 + 4 := hz_12.trans hz
  replace at_1 := va_at.keptP (b := h0) (j := 0) 1 at_1 o_11 rfl
  replace at_5 := va_at.keptP (b := h0) (j := 0) 2 at_5 o_11 rfl
  replace at_9 := va_at.keptP (b := h0) (j := 0) 3 at_9 o_11 rfl
  clear o_11 hz_12
  refine lv_aload_n hx hb dX5_init_26 rfl (lv_at hl 0 rfl) ?_
  refine lv_pc (pc2 := 27) rfl ?_
  refine lv_iconst (v := 0) hx hb dX5_init_27 (by decide) ?_
  refine nw_put (D := D) (ci := 4) (v := .int 0) (ty := .boolean) (C := RX5) (T := TX5) (N := 10) hx hb hts in5 tyX5 tyX5_ok nmX5 hown hK hS (Nat.le_refl _) at0 rfl 3 (by decide) (hts (.fieldLink RX5 24 "RiverModel$Search" "isFound" "Z") (List.mem_of_getElem? (i := 9) rfl)) (fun _ h9 => h9) rfl (by decide +kernel) (by decide) (by decide) (Nat.le_of_ble_eq_true rfl) dX5_init_28 (fun H locs at0 hz_14 o_13 hS => ?_)
  have at0 : va_at D vwCl (h0, .inr (4, [.ref (h0 + 1), .ref (h0 + 2), .ref (h0 + 3), .int 0, .long 0, .int 0, .int 0, .int 0, .int 0, .long 0])) H := at0
  replace hz : H.size = h0 + 4 := hz_14.trans hz
  replace at_1 := va_at.keptP (b := h0) (j := 0) 1 at_1 o_13 rfl
  replace at_5 := va_at.keptP (b := h0) (j := 0) 2 at_5 o_13 rfl
  replace at_9 := va_at.keptP (b := h0) (j := 0) 3 at_9 o_13 rfl
  clear o_13 hz_14
  refine lv_aload_n hx hb dX5_init_31 rfl (lv_at hl 0 rfl) ?_
  refine lv_lconst (v := 0) hx hb dX5_init_32 (by decide) ?_
  refine nw_put (D := D) (ci := 4) (v := .long 0) (ty := .long) (C := RX5) (T := TX5) (N := 10) hx hb hts in5 tyX5 tyX5_ok nmX5 hown hK hS (Nat.le_refl _) at0 rfl 4 (by decide) (hts (.fieldLink RX5 28 "RiverModel$Search" "leastPeak" "J") (List.mem_of_getElem? (i := 10) rfl)) (fun _ h9 => h9) rfl (by decide +kernel) rfl rfl (Nat.le_of_ble_eq_true rfl) dX5_init_33 (fun H locs at0 hz_16 o_15 hS => ?_)
  have at0 : va_at D vwCl (h0, .inr (4, [.ref (h0 + 1), .ref (h0 + 2), .ref (h0 + 3), .int 0, .long 0, .int 0, .int 0, .int 0, .int 0, .long 0])) H := at0
  replace hz : H.size = h0 + 4 := hz_16.trans hz
  replace at_1 := va_at.keptP (b := h0) (j := 0) 1 at_1 o_15 rfl
  replace at_5 := va_at.keptP (b := h0) (j := 0) 2 at_5 o_15 rfl
  replace at_9 := va_at.keptP (b := h0) (j := 0) 3 at_9 o_15 rfl
  clear o_15 hz_16
  refine lv_aload_n hx hb dX5_init_36 rfl (lv_at hl 0 rfl) ?_
  refine lv_iconst (v := 0) hx hb dX5_init_37 (by decide) ?_
  refine nw_put (D := D) (ci := 4) (v := .int 0) (ty := .int) (C := RX5) (T := TX5) (N := 10) hx hb hts in5 tyX5 tyX5_ok nmX5 hown hK hS (Nat.le_refl _) at0 rfl 5 (by decide) (hts (.fieldLink RX5 32 "RiverModel$Search" "gate" "I") (List.mem_of_getElem? (i := 11) rfl)) (fun _ h9 => h9) rfl (by decide +kernel) rfl rfl (Nat.le_of_ble_eq_true rfl) dX5_init_38 (fun H locs at0 hz_18 o_17 hS => ?_)
  have at0 : va_at D vwCl (h0, .inr (4, [.ref (h0 + 1), .ref (h0 + 2), .ref (h0 + 3), .int 0, .long 0, .int 0, .int 0, .int 0, .int 0, .long 0])) H := at0
  replace hz : H.size = h0 + 4 := hz_18.trans hz
  replace at_1 := va_at.keptP (b := h0) (j := 0) 1 at_1 o_17 rfl
  replace at_5 := va_at.keptP (b := h0) (j := 0) 2 at_5 o_17 rfl
  replace at_9 := va_at.keptP (b := h0) (j := 0) 3 at_9 o_17 rfl
  clear o_17 hz_18
  refine lv_pc (pc2 := 41) rfl ?_
  refine lv_aload_n hx hb dX5_init_41 rfl (lv_at hl 0 rfl) ?_
  refine lv_iconst (v := 0) hx hb dX5_init_42 (by decide) ?_
  refine nw_put (D := D) (ci := 4) (v := .int 0) (ty := .int) (C := RX5) (T := TX5) (N := 10) hx hb hts in5 tyX5 tyX5_ok nmX5 hown hK hS (Nat.le_refl _) at0 rfl 6 (by decide) (hts (.fieldLink RX5 36 "RiverModel$Search" "blockHours" "I") (List.mem_of_getElem? (i := 12) rfl)) (fun _ h9 => h9) rfl (by decide +kernel) rfl rfl (Nat.le_of_ble_eq_true rfl) dX5_init_43 (fun H locs at0 hz_20 o_19 hS => ?_)
  have at0 : va_at D vwCl (h0, .inr (4, [.ref (h0 + 1), .ref (h0 + 2), .ref (h0 + 3), .int 0, .long 0, .int 0, .int 0, .int 0, .int 0, .long 0])) H := at0
  replace hz : H.size = h0 + 4 := hz_20.trans hz
  replace at_1 := va_at.keptP (b := h0) (j := 0) 1 at_1 o_19 rfl
  replace at_5 := va_at.keptP (b := h0) (j := 0) 2 at_5 o_19 rfl
  replace at_9 := va_at.keptP (b := h0) (j := 0) 3 at_9 o_19 rfl
  clear o_19 hz_20
  refine lv_aload_n hx hb dX5_init_46 rfl (lv_at hl 0 rfl) ?_
  refine lv_iconst (v := 0) hx hb dX5_init_47 (by decide) ?_
  refine nw_put (D := D) (ci := 4) (v := .int 0) (ty := .int) (C := RX5) (T := TX5) (N := 10) hx hb hts in5 tyX5 tyX5_ok nmX5 hown hK hS (Nat.le_refl _) at0 rfl 7 (by decide) (hts (.fieldLink RX5 39 "RiverModel$Search" "gauge" "I") (List.mem_of_getElem? (i := 13) rfl)) (fun _ h9 => h9) rfl (by decide +kernel) rfl rfl (Nat.le_of_ble_eq_true rfl) dX5_init_48 (fun H locs at0 hz_22 o_21 hS => ?_)
  have at0 : va_at D vwCl (h0, .inr (4, [.ref (h0 + 1), .ref (h0 + 2), .ref (h0 + 3), .int 0, .long 0, .int 0, .int 0, .int 0, .int 0, .long 0])) H := at0
  replace hz : H.size = h0 + 4 := hz_22.trans hz
  replace at_1 := va_at.keptP (b := h0) (j := 0) 1 at_1 o_21 rfl
  replace at_5 := va_at.keptP (b := h0) (j := 0) 2 at_5 o_21 rfl
  replace at_9 := va_at.keptP (b := h0) (j := 0) 3 at_9 o_21 rfl
  clear o_21 hz_22
  refine lv_aload_n hx hb dX5_init_51 rfl (lv_at hl 0 rfl) ?_
  refine lv_iconst (v := 0) hx hb dX5_init_52 (by decide) ?_
  refine lv_pc (pc2 := 53) rfl ?_
  refine nw_put (D := D) (ci := 4) (v := .int 0) (ty := .int) (C := RX5) (T := TX5) (N := 10) hx hb hts in5 tyX5 tyX5_ok nmX5 hown hK hS (Nat.le_refl _) at0 rfl 8 (by decide) (hts (.fieldLink RX5 42 "RiverModel$Search" "store" "I") (List.mem_of_getElem? (i := 14) rfl)) (fun _ h9 => h9) rfl (by decide +kernel) rfl rfl (Nat.le_of_ble_eq_true rfl) dX5_init_53 (fun H locs at0 hz_24 o_23 hS => ?_)
  have at0 : va_at D vwCl (h0, .inr (4, [.ref (h0 + 1), .ref (h0 + 2), .ref (h0 + 3), .int 0, .long 0, .int 0, .int 0, .int 0, .int 0, .long 0])) H := at0
  replace hz : H.size = h0 + 4 := hz_24.trans hz
  replace at_1 := va_at.keptP (b := h0) (j := 0) 1 at_1 o_23 rfl
  replace at_5 := va_at.keptP (b := h0) (j := 0) 2 at_5 o_23 rfl
  replace at_9 := va_at.keptP (b := h0) (j := 0) 3 at_9 o_23 rfl
  clear o_23 hz_24
  refine lv_aload_n hx hb dX5_init_56 rfl (lv_at hl 0 rfl) ?_
  refine lv_lconst (v := 0) hx hb dX5_init_57 (by decide) ?_
  refine nw_put (D := D) (ci := 4) (v := .long 0) (ty := .long) (C := RX5) (T := TX5) (N := 10) hx hb hts in5 tyX5 tyX5_ok nmX5 hown hK hS (Nat.le_refl _) at0 rfl 9 (by decide) (hts (.fieldLink RX5 45 "RiverModel$Search" "limit" "J") (List.mem_of_getElem? (i := 15) rfl)) (fun _ h9 => h9) rfl (by decide +kernel) rfl rfl (Nat.le_of_ble_eq_true rfl) dX5_init_58 (fun H locs at0 hz_26 o_25 hS => ?_)
  have at0 : va_at D vwCl (h0, .inr (4, [.ref (h0 + 1), .ref (h0 + 2), .ref (h0 + 3), .int 0, .long 0, .int 0, .int 0, .int 0, .int 0, .long 0])) H := at0
  replace hz : H.size = h0 + 4 := hz_26.trans hz
  replace at_1 := va_at.keptP (b := h0) (j := 0) 1 at_1 o_25 rfl
  replace at_5 := va_at.keptP (b := h0) (j := 0) 2 at_5 o_25 rfl
  replace at_9 := va_at.keptP (b := h0) (j := 0) 3 at_9 o_25 rfl
  clear o_25 hz_26
  refine lv_iconst (v := 0) hx hb dX5_init_61 (by decide) ?_
  refine lv_istore_n (lv' := [(1, .int 0), (0, .ref h0)]) hx hb dX5_init_62 rfl hl (by decide) rfl (fun ls hl => ?_)
  refine lv_iload_n hx hb dX5_init_63 rfl (lv_at hl 0 rfl) ?_
  refine lv_iconst (v := 4) hx hb dX5_init_64 (by decide) ?_
  refine lv_pc (pc2 := 65) rfl ?_
  refine lv_icmp_ge (tgt := 87) hx hb dX5_init_65 (by decide) (fun q => absurd q (by decide)) (fun _ => ?_)
  refine lv_aload_n hx hb dX5_init_68 rfl (lv_at hl 1 rfl) ?_
  refine va_get (D := D) (ci := 4) (v := .ref (h0 + 1)) (C := RX5) (T := TX5) (N := 10) hx hb hts in5 hown hK (va_one at0) 0 rfl rfl 0 (by decide) (hts (.fieldLink RX5 11 "RiverModel$Search" "blockEnds" "[LRiverModel$Course;") (List.mem_of_getElem? (i := 5) rfl)) (fun _ h9 => h9) rfl dX5_init_69 ?_
  refine lv_iload_n hx hb dX5_init_72 rfl (lv_at hl 0 rfl) ?_
  refine nw_new (ci := 0) (fs := [.null, .null, .null, .null, .long 0, .long 0, .long 0, .int 0]) (C := RX0) (T := TX0) (N := 8) (z := h0 + 4) hx hb hts in0 tyX0 tyX0_ok hown (hts (.classLink RX5 9 RX0) (List.mem_of_getElem? (i := 4) rfl)) (hts (.instantiable RX0 8) (List.mem_of_getElem? (i := 16) rfl)) (hts (.initialized RX0) (List.mem_of_getElem? (i := 17) rfl)) hK rfl df_X0 hS hz (Nat.le_add_right _ _) (Nat.le_of_ble_eq_true rfl) (Nat.le_of_ble_eq_true rfl) dX5_init_73 (fun H at_27 hz o_28 hS => ?_)
  replace at0 := va_at.keptA (b := h0) (z := 4) 0 at0 o_28 (Nat.le_of_ble_eq_true rfl)
  replace at_1 := va_at.keptA (b := h0) (z := 4) 1 at_1 o_28 (Nat.le_of_ble_eq_true rfl)
  replace at_5 := va_at.keptA (b := h0) (z := 4) 2 at_5 o_28 (Nat.le_of_ble_eq_true rfl)
  replace at_9 := va_at.keptA (b := h0) (z := 4) 3 at_9 o_28 (Nat.le_of_ble_eq_true rfl)
  clear o_28
  have hz : H.size = h0 + 5 := hz
  refine lv_dup hx hb dX5_init_76 rfl ?_
  refine nw_call (z := h0 + 4) (tRun (va_runIN (As := []) (rest := [.ref (h0 + 4), .int 0, .ref (h0 + 1)]) ⟨hx, hb, hml, hown, hts⟩ (cc_X0 l D cI cL cC (h0 + 4)) ⟨va_cnB 0 hts gX5_init_X0_init_n48 rfl rfl rfl (hE.2.1 _ (List.mem_of_getElem? (i := 5) rfl)) (hts (.initialized RX0) (List.mem_of_getElem? (i := 17) rfl)) (by decide +kernel) ⟨Nat.le_of_ble_eq_true rfl, Nat.le_of_ble_eq_true rfl⟩, rfl, (hts (.instanceMethod yX0_init) (List.mem_of_getElem? (i := 18) rfl))⟩ (cP_I hz at_27 hE) rfl rfl hl.1 rfl (lv_room (Nat.le_of_ble_eq_true rfl)) dX5_init_77 ⟨Nat.le_of_ble_eq_true rfl, Nat.le_of_ble_eq_true rfl⟩)) hS hz (by decide) (Nat.le_add_right _ _) (fun H locs sg_29 hz o_30 hS => ?_)
  replace at0 := va_at.keptA (b := h0) (z := 4) 0 at0 o_30 (Nat.le_of_ble_eq_true rfl)
  replace at_1 := va_at.keptA (b := h0) (z := 4) 1 at_1 o_30 (Nat.le_of_ble_eq_true rfl)
  replace at_5 := va_at.keptA (b := h0) (z := 4) 2 at_5 o_30 (Nat.le_of_ble_eq_true rfl)
  replace at_9 := va_at.keptA (b := h0) (z := 4) 3 at_9 o_30 (Nat.le_of_ble_eq_true rfl)
  have hz : H.size = h0 + 9 := tSlen (n := 5) hz rfl
  clear o_30
  have sg_29 : tS D (gF cI cL cC 0 0 0 (fun _ => 0) (fun _ => 0)) [5, 17, 18, 19, 20] (h0 + 4) H := sg_29
  obtain ⟨e_31, at_32, h_33⟩ := sg_29 0 (by decide)
  obtain ⟨_, _, _, _, _, _, _, _, rfl, _, _, _, _, _⟩ := h_33 (tK2 [5, 17, 18, 19, 20] (h0 + 4)) (fun j _ => tK2_at _ _ _)
  refine nw_aast hx hb hK hS (Nat.le_add_right _ _) at_1 at_32 (i := 0) (q_in (by decide) (by decide)) dX5_init_80 (fun H locs at_1 hz_35 o_34 hS => ?_)
  have at_1 : va_at D vwCl (h0 + 1, .inl (cC, 4, .inr (.inr (.inr (.inr (va_up (fun _ => none) 0 (some (h0 + 4)))))))) H := at_1
  replace hz : H.size = h0 + 9 := hz_35.trans hz
  clear at_32
  replace at0 := va_at.keptP (b := h0) (j := 1) 0 at0 o_34 rfl
  replace at_5 := va_at.keptP (b := h0) (j := 1) 2 at_5 o_34 rfl
  replace at_9 := va_at.keptP (b := h0) (j := 1) 3 at_9 o_34 rfl
  replace sg_29 := tS.keptP (b := h0) (j := 1) 4 5 sg_29 rfl o_34 rfl
  clear o_34 hz_35
  refine lv_pc (pc2 := 81) rfl ?_
  refine lv_iinc (v := 1) (lv' := [(1, .int 1), (0, .ref h0)]) hx hb dX5_init_81 hl (k := 0) rfl (by decide) (by decide) rfl (fun ls hl => ?_)
  refine lv_goto (tgt := 63) hx hb dX5_init_84 (by decide) ?_
  refine lv_iload_n hx hb dX5_init_63 rfl (lv_at hl 0 rfl) ?_
  refine lv_iconst (v := 4) hx hb dX5_init_64 (by decide) ?_
  refine lv_icmp_ge (tgt := 87) hx hb dX5_init_65 (by decide) (fun q => absurd q (by decide)) (fun _ => ?_)
  refine lv_aload_n hx hb dX5_init_68 rfl (lv_at hl 1 rfl) ?_
  refine va_get (D := D) (ci := 4) (v := .ref (h0 + 1)) (C := RX5) (T := TX5) (N := 10) hx hb hts in5 hown hK (va_one at0) 0 rfl rfl 0 (by decide) (hts (.fieldLink RX5 11 "RiverModel$Search" "blockEnds" "[LRiverModel$Course;") (List.mem_of_getElem? (i := 5) rfl)) (fun _ h9 => h9) rfl dX5_init_69 ?_
  refine lv_iload_n hx hb dX5_init_72 rfl (lv_at hl 0 rfl) ?_
  refine lv_pc (pc2 := 73) rfl ?_
  refine nw_new (ci := 0) (fs := [.null, .null, .null, .null, .long 0, .long 0, .long 0, .int 0]) (C := RX0) (T := TX0) (N := 8) (z := h0 + 9) hx hb hts in0 tyX0 tyX0_ok hown (hts (.classLink RX5 9 RX0) (List.mem_of_getElem? (i := 4) rfl)) (hts (.instantiable RX0 8) (List.mem_of_getElem? (i := 16) rfl)) (hts (.initialized RX0) (List.mem_of_getElem? (i := 17) rfl)) hK rfl df_X0 hS hz (Nat.le_add_right _ _) (Nat.le_of_ble_eq_true rfl) (Nat.le_of_ble_eq_true rfl) dX5_init_73 (fun H at_36 hz o_37 hS => ?_)
  replace at0 := va_at.keptA (b := h0) (z := 9) 0 at0 o_37 (Nat.le_of_ble_eq_true rfl)
  replace at_1 := va_at.keptA (b := h0) (z := 9) 1 at_1 o_37 (Nat.le_of_ble_eq_true rfl)
  replace at_5 := va_at.keptA (b := h0) (z := 9) 2 at_5 o_37 (Nat.le_of_ble_eq_true rfl)
  replace at_9 := va_at.keptA (b := h0) (z := 9) 3 at_9 o_37 (Nat.le_of_ble_eq_true rfl)
  replace sg_29 := tS.keptA (b := h0) (z := 9) 4 5 sg_29 rfl o_37 (Nat.le_of_ble_eq_true rfl)
  clear o_37
  have hz : H.size = h0 + 10 := hz
  refine lv_dup hx hb dX5_init_76 rfl ?_
  refine nw_call (z := h0 + 9) (tRun (va_runIN (As := []) (rest := [.ref (h0 + 9), .int 1, .ref (h0 + 1)]) ⟨hx, hb, hml, hown, hts⟩ (cc_X0 l D cI cL cC (h0 + 9)) ⟨va_cnB 0 hts gX5_init_X0_init_n48 rfl rfl rfl (hE.2.1 _ (List.mem_of_getElem? (i := 5) rfl)) (hts (.initialized RX0) (List.mem_of_getElem? (i := 17) rfl)) (by decide +kernel) ⟨Nat.le_of_ble_eq_true rfl, Nat.le_of_ble_eq_true rfl⟩, rfl, (hts (.instanceMethod yX0_init) (List.mem_of_getElem? (i := 18) rfl))⟩ (cP_I hz at_36 hE) rfl rfl hl.1 rfl (lv_room (Nat.le_of_ble_eq_true rfl)) dX5_init_77 ⟨Nat.le_of_ble_eq_true rfl, Nat.le_of_ble_eq_true rfl⟩)) hS hz (by decide) (Nat.le_add_right _ _) (fun H locs sg_38 hz o_39 hS => ?_)
  replace at0 := va_at.keptA (b := h0) (z := 9) 0 at0 o_39 (Nat.le_of_ble_eq_true rfl)
  replace at_1 := va_at.keptA (b := h0) (z := 9) 1 at_1 o_39 (Nat.le_of_ble_eq_true rfl)
  replace at_5 := va_at.keptA (b := h0) (z := 9) 2 at_5 o_39 (Nat.le_of_ble_eq_true rfl)
  replace at_9 := va_at.keptA (b := h0) (z := 9) 3 at_9 o_39 (Nat.le_of_ble_eq_true rfl)
  replace sg_29 := tS.keptA (b := h0) (z := 9) 4 5 sg_29 rfl o_39 (Nat.le_of_ble_eq_true rfl)
  have hz : H.size = h0 + 14 := tSlen (n := 5) hz rfl
  clear o_39
  have sg_38 : tS D (gF cI cL cC 0 0 0 (fun _ => 0) (fun _ => 0)) [5, 17, 18, 19, 20] (h0 + 9) H := sg_38
  obtain ⟨e_40, at_41, h_42⟩ := sg_38 0 (by decide)
  obtain ⟨_, _, _, _, _, _, _, _, rfl, _, _, _, _, _⟩ := h_42 (tK2 [5, 17, 18, 19, 20] (h0 + 9)) (fun j _ => tK2_at _ _ _)
  refine nw_aast hx hb hK hS (Nat.le_add_right _ _) at_1 at_41 (i := 1) (q_in (by decide) (by decide)) dX5_init_80 (fun H locs at_1 hz_44 o_43 hS => ?_)
  have at_1 : va_at D vwCl (h0 + 1, .inl (cC, 4, .inr (.inr (.inr (.inr (va_up (va_up (fun _ => none) 0 (some (h0 + 4))) 1 (some (h0 + 9)))))))) H := at_1
  replace hz : H.size = h0 + 14 := hz_44.trans hz
  clear at_41
  replace at0 := va_at.keptP (b := h0) (j := 1) 0 at0 o_43 rfl
  replace at_5 := va_at.keptP (b := h0) (j := 1) 2 at_5 o_43 rfl
  replace at_9 := va_at.keptP (b := h0) (j := 1) 3 at_9 o_43 rfl
  replace sg_29 := tS.keptP (b := h0) (j := 1) 4 5 sg_29 rfl o_43 rfl
  replace sg_38 := tS.keptP (b := h0) (j := 1) 9 5 sg_38 rfl o_43 rfl
  clear o_43 hz_44
  refine lv_iinc (v := 2) (lv' := [(1, .int 2), (0, .ref h0)]) hx hb dX5_init_81 hl (k := 0) rfl (by decide) (by decide) rfl (fun ls hl => ?_)
  refine lv_goto (tgt := 63) hx hb dX5_init_84 (by decide) ?_
  refine lv_iload_n hx hb dX5_init_63 rfl (lv_at hl 0 rfl) ?_
  refine lv_iconst (v := 4) hx hb dX5_init_64 (by decide) ?_
  refine lv_pc (pc2 := 65) rfl ?_
  refine lv_icmp_ge (tgt := 87) hx hb dX5_init_65 (by decide) (fun q => absurd q (by decide)) (fun _ => ?_)
  refine lv_aload_n hx hb dX5_init_68 rfl (lv_at hl 1 rfl) ?_
  refine va_get (D := D) (ci := 4) (v := .ref (h0 + 1)) (C := RX5) (T := TX5) (N := 10) hx hb hts in5 hown hK (va_one at0) 0 rfl rfl 0 (by decide) (hts (.fieldLink RX5 11 "RiverModel$Search" "blockEnds" "[LRiverModel$Course;") (List.mem_of_getElem? (i := 5) rfl)) (fun _ h9 => h9) rfl dX5_init_69 ?_
  refine lv_iload_n hx hb dX5_init_72 rfl (lv_at hl 0 rfl) ?_
  refine nw_new (ci := 0) (fs := [.null, .null, .null, .null, .long 0, .long 0, .long 0, .int 0]) (C := RX0) (T := TX0) (N := 8) (z := h0 + 14) hx hb hts in0 tyX0 tyX0_ok hown (hts (.classLink RX5 9 RX0) (List.mem_of_getElem? (i := 4) rfl)) (hts (.instantiable RX0 8) (List.mem_of_getElem? (i := 16) rfl)) (hts (.initialized RX0) (List.mem_of_getElem? (i := 17) rfl)) hK rfl df_X0 hS hz (Nat.le_add_right _ _) (Nat.le_of_ble_eq_true rfl) (Nat.le_of_ble_eq_true rfl) dX5_init_73 (fun H at_45 hz o_46 hS => ?_)
  replace at0 := va_at.keptA (b := h0) (z := 14) 0 at0 o_46 (Nat.le_of_ble_eq_true rfl)
  replace at_1 := va_at.keptA (b := h0) (z := 14) 1 at_1 o_46 (Nat.le_of_ble_eq_true rfl)
  replace at_5 := va_at.keptA (b := h0) (z := 14) 2 at_5 o_46 (Nat.le_of_ble_eq_true rfl)
  replace at_9 := va_at.keptA (b := h0) (z := 14) 3 at_9 o_46 (Nat.le_of_ble_eq_true rfl)
  replace sg_29 := tS.keptA (b := h0) (z := 14) 4 5 sg_29 rfl o_46 (Nat.le_of_ble_eq_true rfl)
  replace sg_38 := tS.keptA (b := h0) (z := 14) 9 5 sg_38 rfl o_46 (Nat.le_of_ble_eq_true rfl)
  clear o_46
  have hz : H.size = h0 + 15 := hz
  refine lv_dup hx hb dX5_init_76 rfl ?_
  refine nw_call (z := h0 + 14) (tRun (va_runIN (As := []) (rest := [.ref (h0 + 14), .int 2, .ref (h0 + 1)]) ⟨hx, hb, hml, hown, hts⟩ (cc_X0 l D cI cL cC (h0 + 14)) ⟨va_cnB 0 hts gX5_init_X0_init_n48 rfl rfl rfl (hE.2.1 _ (List.mem_of_getElem? (i := 5) rfl)) (hts (.initialized RX0) (List.mem_of_getElem? (i := 17) rfl)) (by decide +kernel) ⟨Nat.le_of_ble_eq_true rfl, Nat.le_of_ble_eq_true rfl⟩, rfl, (hts (.instanceMethod yX0_init) (List.mem_of_getElem? (i := 18) rfl))⟩ (cP_I hz at_45 hE) rfl rfl hl.1 rfl (lv_room (Nat.le_of_ble_eq_true rfl)) dX5_init_77 ⟨Nat.le_of_ble_eq_true rfl, Nat.le_of_ble_eq_true rfl⟩)) hS hz (by decide) (Nat.le_add_right _ _) (fun H locs sg_47 hz o_48 hS => ?_)
  replace at0 := va_at.keptA (b := h0) (z := 14) 0 at0 o_48 (Nat.le_of_ble_eq_true rfl)
  replace at_1 := va_at.keptA (b := h0) (z := 14) 1 at_1 o_48 (Nat.le_of_ble_eq_true rfl)
  replace at_5 := va_at.keptA (b := h0) (z := 14) 2 at_5 o_48 (Nat.le_of_ble_eq_true rfl)
  replace at_9 := va_at.keptA (b := h0) (z := 14) 3 at_9 o_48 (Nat.le_of_ble_eq_true rfl)
  replace sg_29 := tS.keptA (b := h0) (z := 14) 4 5 sg_29 rfl o_48 (Nat.le_of_ble_eq_true rfl)
  replace sg_38 := tS.keptA (b := h0) (z := 14) 9 5 sg_38 rfl o_48 (Nat.le_of_ble_eq_true rfl)
  have hz : H.size = h0 + 19 := tSlen (n := 5) hz rfl
  clear o_48
  have sg_47 : tS D (gF cI cL cC 0 0 0 (fun _ => 0) (fun _ => 0)) [5, 17, 18, 19, 20] (h0 + 14) H := sg_47
  obtain ⟨e_49, at_50, h_51⟩ := sg_47 0 (by decide)
  obtain ⟨_, _, _, _, _, _, _, _, rfl, _, _, _, _, _⟩ := h_51 (tK2 [5, 17, 18, 19, 20] (h0 + 14)) (fun j _ => tK2_at _ _ _)
  refine nw_aast hx hb hK hS (Nat.le_add_right _ _) at_1 at_50 (i := 2) (q_in (by decide) (by decide)) dX5_init_80 (fun H locs at_1 hz_53 o_52 hS => ?_)
  have at_1 : va_at D vwCl (h0 + 1, .inl (cC, 4, .inr (.inr (.inr (.inr (va_up (va_up (va_up (fun _ => none) 0 (some (h0 + 4))) 1 (some (h0 + 9))) 2 (some (h0 + 14)))))))) H := at_1
  replace hz : H.size = h0 + 19 := hz_53.trans hz
  clear at_50
  replace at0 := va_at.keptP (b := h0) (j := 1) 0 at0 o_52 rfl
  replace at_5 := va_at.keptP (b := h0) (j := 1) 2 at_5 o_52 rfl
  replace at_9 := va_at.keptP (b := h0) (j := 1) 3 at_9 o_52 rfl
  replace sg_29 := tS.keptP (b := h0) (j := 1) 4 5 sg_29 rfl o_52 rfl
  replace sg_38 := tS.keptP (b := h0) (j := 1) 9 5 sg_38 rfl o_52 rfl
  replace sg_47 := tS.keptP (b := h0) (j := 1) 14 5 sg_47 rfl o_52 rfl
  clear o_52 hz_53
  refine lv_pc (pc2 := 81) rfl ?_
  refine lv_iinc (v := 3) (lv' := [(1, .int 3), (0, .ref h0)]) hx hb dX5_init_81 hl (k := 0) rfl (by decide) (by decide) rfl (fun ls hl => ?_)
  refine lv_goto (tgt := 63) hx hb dX5_init_84 (by decide) ?_
  refine lv_iload_n hx hb dX5_init_63 rfl (lv_at hl 0 rfl) ?_
  refine lv_iconst (v := 4) hx hb dX5_init_64 (by decide) ?_
  refine lv_icmp_ge (tgt := 87) hx hb dX5_init_65 (by decide) (fun q => absurd q (by decide)) (fun _ => ?_)
  refine lv_aload_n hx hb dX5_init_68 rfl (lv_at hl 1 rfl) ?_
  refine va_get (D := D) (ci := 4) (v := .ref (h0 + 1)) (C := RX5) (T := TX5) (N := 10) hx hb hts in5 hown hK (va_one at0) 0 rfl rfl 0 (by decide) (hts (.fieldLink RX5 11 "RiverModel$Search" "blockEnds" "[LRiverModel$Course;") (List.mem_of_getElem? (i := 5) rfl)) (fun _ h9 => h9) rfl dX5_init_69 ?_
  refine lv_iload_n hx hb dX5_init_72 rfl (lv_at hl 0 rfl) ?_
  refine lv_pc (pc2 := 73) rfl ?_
  refine nw_new (ci := 0) (fs := [.null, .null, .null, .null, .long 0, .long 0, .long 0, .int 0]) (C := RX0) (T := TX0) (N := 8) (z := h0 + 19) hx hb hts in0 tyX0 tyX0_ok hown (hts (.classLink RX5 9 RX0) (List.mem_of_getElem? (i := 4) rfl)) (hts (.instantiable RX0 8) (List.mem_of_getElem? (i := 16) rfl)) (hts (.initialized RX0) (List.mem_of_getElem? (i := 17) rfl)) hK rfl df_X0 hS hz (Nat.le_add_right _ _) (Nat.le_of_ble_eq_true rfl) (Nat.le_of_ble_eq_true rfl) dX5_init_73 (fun H at_54 hz o_55 hS => ?_)
  replace at0 := va_at.keptA (b := h0) (z := 19) 0 at0 o_55 (Nat.le_of_ble_eq_true rfl)
  replace at_1 := va_at.keptA (b := h0) (z := 19) 1 at_1 o_55 (Nat.le_of_ble_eq_true rfl)
  replace at_5 := va_at.keptA (b := h0) (z := 19) 2 at_5 o_55 (Nat.le_of_ble_eq_true rfl)
  replace at_9 := va_at.keptA (b := h0) (z := 19) 3 at_9 o_55 (Nat.le_of_ble_eq_true rfl)
  replace sg_29 := tS.keptA (b := h0) (z := 19) 4 5 sg_29 rfl o_55 (Nat.le_of_ble_eq_true rfl)
  replace sg_38 := tS.keptA (b := h0) (z := 19) 9 5 sg_38 rfl o_55 (Nat.le_of_ble_eq_true rfl)
  replace sg_47 := tS.keptA (b := h0) (z := 19) 14 5 sg_47 rfl o_55 (Nat.le_of_ble_eq_true rfl)
  clear o_55
  have hz : H.size = h0 + 20 := hz
  refine lv_dup hx hb dX5_init_76 rfl ?_
  refine nw_call (z := h0 + 19) (tRun (va_runIN (As := []) (rest := [.ref (h0 + 19), .int 3, .ref (h0 + 1)]) ⟨hx, hb, hml, hown, hts⟩ (cc_X0 l D cI cL cC (h0 + 19)) ⟨va_cnB 0 hts gX5_init_X0_init_n48 rfl rfl rfl (hE.2.1 _ (List.mem_of_getElem? (i := 5) rfl)) (hts (.initialized RX0) (List.mem_of_getElem? (i := 17) rfl)) (by decide +kernel) ⟨Nat.le_of_ble_eq_true rfl, Nat.le_of_ble_eq_true rfl⟩, rfl, (hts (.instanceMethod yX0_init) (List.mem_of_getElem? (i := 18) rfl))⟩ (cP_I hz at_54 hE) rfl rfl hl.1 rfl (lv_room (Nat.le_of_ble_eq_true rfl)) dX5_init_77 ⟨Nat.le_of_ble_eq_true rfl, Nat.le_of_ble_eq_true rfl⟩)) hS hz (by decide) (Nat.le_add_right _ _) (fun H locs sg_56 hz o_57 hS => ?_)
  replace at0 := va_at.keptA (b := h0) (z := 19) 0 at0 o_57 (Nat.le_of_ble_eq_true rfl)
  replace at_1 := va_at.keptA (b := h0) (z := 19) 1 at_1 o_57 (Nat.le_of_ble_eq_true rfl)
  replace at_5 := va_at.keptA (b := h0) (z := 19) 2 at_5 o_57 (Nat.le_of_ble_eq_true rfl)
  replace at_9 := va_at.keptA (b := h0) (z := 19) 3 at_9 o_57 (Nat.le_of_ble_eq_true rfl)
  replace sg_29 := tS.keptA (b := h0) (z := 19) 4 5 sg_29 rfl o_57 (Nat.le_of_ble_eq_true rfl)
  replace sg_38 := tS.keptA (b := h0) (z := 19) 9 5 sg_38 rfl o_57 (Nat.le_of_ble_eq_true rfl)
  replace sg_47 := tS.keptA (b := h0) (z := 19) 14 5 sg_47 rfl o_57 (Nat.le_of_ble_eq_true rfl)
  have hz : H.size = h0 + 24 := tSlen (n := 5) hz rfl
  clear o_57
  have sg_56 : tS D (gF cI cL cC 0 0 0 (fun _ => 0) (fun _ => 0)) [5, 17, 18, 19, 20] (h0 + 19) H := sg_56
  obtain ⟨e_58, at_59, h_60⟩ := sg_56 0 (by decide)
  obtain ⟨_, _, _, _, _, _, _, _, rfl, _, _, _, _, _⟩ := h_60 (tK2 [5, 17, 18, 19, 20] (h0 + 19)) (fun j _ => tK2_at _ _ _)
  refine nw_aast hx hb hK hS (Nat.le_add_right _ _) at_1 at_59 (i := 3) (q_in (by decide) (by decide)) dX5_init_80 (fun H locs at_1 hz_62 o_61 hS => ?_)
  have at_1 : va_at D vwCl (h0 + 1, .inl (cC, 4, .inr (.inr (.inr (.inr (va_up (va_up (va_up (va_up (fun _ => none) 0 (some (h0 + 4))) 1 (some (h0 + 9))) 2 (some (h0 + 14))) 3 (some (h0 + 19)))))))) H := at_1
  replace hz : H.size = h0 + 24 := hz_62.trans hz
  clear at_59
  replace at0 := va_at.keptP (b := h0) (j := 1) 0 at0 o_61 rfl
  replace at_5 := va_at.keptP (b := h0) (j := 1) 2 at_5 o_61 rfl
  replace at_9 := va_at.keptP (b := h0) (j := 1) 3 at_9 o_61 rfl
  replace sg_29 := tS.keptP (b := h0) (j := 1) 4 5 sg_29 rfl o_61 rfl
  replace sg_38 := tS.keptP (b := h0) (j := 1) 9 5 sg_38 rfl o_61 rfl
  replace sg_47 := tS.keptP (b := h0) (j := 1) 14 5 sg_47 rfl o_61 rfl
  replace sg_56 := tS.keptP (b := h0) (j := 1) 19 5 sg_56 rfl o_61 rfl
  clear o_61 hz_62
  refine lv_iinc (v := 4) (lv' := [(1, .int 4), (0, .ref h0)]) hx hb dX5_init_81 hl (k := 0) rfl (by decide) (by decide) rfl (fun ls hl => ?_)
  refine lv_goto (tgt := 63) hx hb dX5_init_84 (by decide) ?_
  refine lv_iload_n hx hb dX5_init_63 rfl (lv_at hl 0 rfl) ?_
  refine lv_iconst (v := 4) hx hb dX5_init_64 (by decide) ?_
  refine lv_pc (pc2 := 65) rfl ?_
  refine lv_icmp_ge (tgt := 87) hx hb dX5_init_65 (by decide) (fun _ => ?_) (fun q => absurd (by decide) q)
  have sg_64 : tS D (gF cI cL cC 0 0 0 (fun _ => 0) (fun _ => 0)) [33] (h0 + 2) H := tS.one at_5 (fun t => ⟨_, rfl⟩)
  have sg_65 : tS D (gF cI cL cC 0 0 0 (fun _ => 0) (fun _ => 0)) [34] (h0 + 3) H := tS.one at_9 (fun t => ⟨_, rfl⟩)
  have sj_66 : tS D (gF cI cL cC 0 0 0 (fun _ => 0) (fun _ => 0)) [5, 17, 18, 19, 20, 5, 17, 18, 19, 20] (h0 + 14) H := tS.app3 5 sg_47 sg_56 rfl rfl
  have sj_67 : tS D (gF cI cL cC 0 0 0 (fun _ => 0) (fun _ => 0)) [5, 17, 18, 19, 20, 5, 17, 18, 19, 20, 5, 17, 18, 19, 20] (h0 + 9) H := tS.app3 5 sg_38 sj_66 rfl rfl
  have sj_68 : tS D (gF cI cL cC 0 0 0 (fun _ => 0) (fun _ => 0)) [5, 17, 18, 19, 20, 5, 17, 18, 19, 20, 5, 17, 18, 19, 20, 5, 17, 18, 19, 20] (h0 + 4) H := tS.app3 5 sg_29 sj_67 rfl rfl
  have sj_69 : tS D (gF cI cL cC 0 0 0 (fun _ => 0) (fun _ => 0)) [34, 5, 17, 18, 19, 20, 5, 17, 18, 19, 20, 5, 17, 18, 19, 20, 5, 17, 18, 19, 20] (h0 + 3) H := tS.app3 1 sg_65 sj_68 rfl rfl
  have sj_70 : tS D (gF cI cL cC 0 0 0 (fun _ => 0) (fun _ => 0)) [33, 34, 5, 17, 18, 19, 20, 5, 17, 18, 19, 20, 5, 17, 18, 19, 20, 5, 17, 18, 19, 20] (h0 + 2) H := tS.app3 1 sg_64 sj_69 rfl rfl
  have sj_71 : tS D (gF cI cL cC 0 0 0 (fun _ => 0) (fun _ => 0)) [32, 33, 34, 5, 17, 18, 19, 20, 5, 17, 18, 19, 20, 5, 17, 18, 19, 20, 5, 17, 18, 19, 20] (h0 + 1) H := by
    refine tS.cons at_1 sj_70 (fun t h1 ht => ⟨_, rfl, fun j hj => ?_⟩)
    rcases lt4 hj with rfl | rfl | rfl | rfl
    · exact ⟨h0 + 4, rfl, ht 2 (by decide)⟩
    · exact ⟨h0 + 9, rfl, ht 7 (by decide)⟩
    · exact ⟨h0 + 14, rfl, ht 12 (by decide)⟩
    · exact ⟨h0 + 19, rfl, ht 17 (by decide)⟩
  have hT : tS D (gF cI cL cC 0 0 0 (fun _ => 0) (fun _ => 0)) [32, 33, 34, 5, 17, 18, 19, 20, 5, 17, 18, 19, 20, 5, 17, 18, 19, 20, 5, 17, 18, 19, 20] (h0 + 1) H := sj_71
  have hT : tS D (gF cI cL cC 0 0 0 (fun _ => 0) (fun _ => 0)) [9, 32, 33, 34, 5, 17, 18, 19, 20, 5, 17, 18, 19, 20, 5, 17, 18, 19, 20, 5, 17, 18, 19, 20] h0 H := tS.cons at0 hT (fun t h1 ht => ⟨h0 + 1, h0 + 2, h0 + 3, 0, 0, 0, 0, 0, 0, 0, rfl, (ht 0 (by decide)), (ht 1 (by decide)), (ht 2 (by decide)), (by decide), (by decide), (by decide)⟩)
  exact W.vret hx hb hr (fun u hu _ => ⟨rfl, by rw [hu]; exact hT, by rw [hu, hz]; rfl, by rw [hu]; exact hS.2.1⟩) hS.2.2 dX5_init_87 hlk
