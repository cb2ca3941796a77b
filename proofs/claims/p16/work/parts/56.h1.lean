theorem dX9_write_0 : decode cX9_write 0 = .ok (.iload_n 1, 1) := by decide +kernel
theorem dX9_write_1 : decode cX9_write 1 = .ok (.iconst 1, 1) := by decide +kernel
theorem dX9_write_2 : decode cX9_write 2 = .ok (.bipush 8, 2) := by decide +kernel
theorem dX9_write_4 : decode cX9_write 4 = .ok (.invokestatic 99, 3) := by decide +kernel
theorem dX9_write_7 : decode cX9_write 7 = .ok (.ifCond .eq 5, 3) := by decide +kernel
theorem dX9_write_10 : decode cX9_write 10 = .ok (.iconst (-1), 1) := by decide +kernel
theorem dX9_write_11 : decode cX9_write 11 = .ok (.ireturn, 1) := by decide +kernel
theorem dX9_write_12 : decode cX9_write 12 = .ok (.aload_n 0, 1) := by decide +kernel
theorem dX9_write_13 : decode cX9_write 13 = .ok (.getfield 10, 3) := by decide +kernel
theorem dX9_write_16 : decode cX9_write 16 = .ok (.getfield 103, 3) := by decide +kernel
theorem dX9_write_19 : decode cX9_write 19 = .ok (.iload_n 1, 1) := by decide +kernel
theorem dX9_write_20 : decode cX9_write 20 = .ok (.iadd, 1) := by decide +kernel
theorem dX9_write_21 : decode cX9_write 21 = .ok (.sipush 400, 3) := by decide +kernel
theorem dX9_write_24 : decode cX9_write 24 = .ok (.if_icmp .le 6, 3) := by decide +kernel
theorem dX9_write_27 : decode cX9_write 27 = .ok (.bipush (-3), 2) := by decide +kernel
theorem dX9_write_29 : decode cX9_write 29 = .ok (.ireturn, 1) := by decide +kernel
theorem dX9_write_30 : decode cX9_write 30 = .ok (.aload_n 0, 1) := by decide +kernel
theorem dX9_write_31 : decode cX9_write 31 = .ok (.getfield 10, 3) := by decide +kernel
theorem dX9_write_34 : decode cX9_write 34 = .ok (.iload_n 1, 1) := by decide +kernel
theorem dX9_write_35 : decode cX9_write 35 = .ok (.lload_n 2, 1) := by decide +kernel
theorem dX9_write_36 : decode cX9_write 36 = .ok (.invokevirtual 106, 3) := by decide +kernel
theorem dX9_write_39 : decode cX9_write 39 = .ok (.aload_n 0, 1) := by decide +kernel
theorem dX9_write_40 : decode cX9_write 40 = .ok (.getfield 10, 3) := by decide +kernel
theorem dX9_write_43 : decode cX9_write 43 = .ok (.getfield 103, 3) := by decide +kernel
theorem dX9_write_46 : decode cX9_write 46 = .ok (.ireturn, 1) := by decide +kernel
theorem dX9_clear_0 : decode cX9_clear 0 = .ok (.aload_n 0, 1) := by decide +kernel
theorem dX9_clear_1 : decode cX9_clear 1 = .ok (.getfield 10, 3) := by decide +kernel
theorem dX9_clear_4 : decode cX9_clear 4 = .ok (.getfield 103, 3) := by decide +kernel
theorem dX9_clear_7 : decode cX9_clear 7 = .ok (.istore_n 1, 1) := by decide +kernel
theorem dX9_clear_8 : decode cX9_clear 8 = .ok (.aload_n 0, 1) := by decide +kernel
theorem dX9_clear_9 : decode cX9_clear 9 = .ok (.getfield 10, 3) := by decide +kernel
theorem dX9_clear_12 : decode cX9_clear 12 = .ok (.iconst 0, 1) := by decide +kernel
theorem dX9_clear_13 : decode cX9_clear 13 = .ok (.putfield 103, 3) := by decide +kernel
theorem dX9_clear_16 : decode cX9_clear 16 = .ok (.iload_n 1, 1) := by decide +kernel
theorem dX9_clear_17 : decode cX9_clear 17 = .ok (.ireturn, 1) := by decide +kernel
theorem dX9_fault_0 : decode cX9_fault 0 = .ok (.aload_n 0, 1) := by decide +kernel
theorem dX9_fault_1 : decode cX9_fault 1 = .ok (.getfield 10, 3) := by decide +kernel
theorem dX9_fault_4 : decode cX9_fault 4 = .ok (.aload_n 0, 1) := by decide +kernel
theorem dX9_fault_5 : decode cX9_fault 5 = .ok (.getfield 23, 3) := by decide +kernel
theorem dX9_fault_8 : decode cX9_fault 8 = .ok (.invokevirtual 110, 3) := by decide +kernel
theorem dX9_fault_11 : decode cX9_fault 11 = .ok (.ireturn, 1) := by decide +kernel
theorem dX9_see_0 : decode cX9_see 0 = .ok (.iload_n 1, 1) := by decide +kernel
theorem dX9_see_1 : decode cX9_see 1 = .ok (.invokestatic 205, 3) := by decide +kernel
theorem dX9_see_4 : decode cX9_see 4 = .ok (.ifCond .ne 23, 3) := by decide +kernel
theorem dX9_see_7 : decode cX9_see 7 = .ok (.iload_n 2, 1) := by decide +kernel
theorem dX9_see_8 : decode cX9_see 8 = .ok (.iconst 0, 1) := by decide +kernel
theorem dX9_see_9 : decode cX9_see 9 = .ok (.bipush 95, 2) := by decide +kernel
theorem dX9_see_11 : decode cX9_see 11 = .ok (.invokestatic 99, 3) := by decide +kernel
theorem dX9_see_14 : decode cX9_see 14 = .ok (.ifCond .ne 13, 3) := by decide +kernel
theorem dX9_see_17 : decode cX9_see 17 = .ok (.iload_n 3, 1) := by decide +kernel
theorem dX9_see_18 : decode cX9_see 18 = .ok (.iconst (-1), 1) := by decide +kernel
theorem dX9_see_19 : decode cX9_see 19 = .ok (.ldc 219, 2) := by decide +kernel
theorem dX9_see_21 : decode cX9_see 21 = .ok (.invokestatic 99, 3) := by decide +kernel
theorem dX9_see_24 : decode cX9_see 24 = .ok (.ifCond .eq 6, 3) := by decide +kernel
theorem dX9_see_27 : decode cX9_see 27 = .ok (.bipush (-100), 2) := by decide +kernel
theorem dX9_see_29 : decode cX9_see 29 = .ok (.ireturn, 1) := by decide +kernel
theorem dX9_see_30 : decode cX9_see 30 = .ok (.aload_n 0, 1) := by decide +kernel
theorem dX9_see_31 : decode cX9_see 31 = .ok (.iload_n 1, 1) := by decide +kernel
theorem dX9_see_32 : decode cX9_see 32 = .ok (.invokevirtual 212, 3) := by decide +kernel
theorem dX9_see_35 : decode cX9_see 35 = .ok (.ifCond .eq 8, 3) := by decide +kernel
theorem dX9_see_38 : decode cX9_see 38 = .ok (.bipush (-102), 2) := by decide +kernel
theorem dX9_see_40 : decode cX9_see 40 = .ok (.goto 13, 3) := by decide +kernel
theorem dX9_see_43 : decode cX9_see 43 = .ok (.aload_n 0, 1) := by decide +kernel
theorem dX9_see_44 : decode cX9_see 44 = .ok (.getfield 74, 3) := by decide +kernel
theorem dX9_see_47 : decode cX9_see 47 = .ok (.iload_n 1, 1) := by decide +kernel
theorem dX9_see_48 : decode cX9_see 48 = .ok (.iload_n 2, 1) := by decide +kernel
theorem dX9_see_49 : decode cX9_see 49 = .ok (.iload_n 3, 1) := by decide +kernel
theorem dX9_see_50 : decode cX9_see 50 = .ok (.invokevirtual 220, 3) := by decide +kernel
theorem dX9_see_53 : decode cX9_see 53 = .ok (.ireturn, 1) := by decide +kernel
theorem dX9_draftBecomesModel_0 : decode cX9_draftBecomesModel 0 = .ok (.aload_n 0, 1) := by decide +kernel
theorem dX9_draftBecomesModel_1 : decode cX9_draftBecomesModel 1 = .ok (.getfield 19, 3) := by decide +kernel
theorem dX9_draftBecomesModel_4 : decode cX9_draftBecomesModel 4 = .ok (.astore_n 1, 1) := by decide +kernel
theorem dX9_draftBecomesModel_5 : decode cX9_draftBecomesModel 5 = .ok (.aload_n 0, 1) := by decide +kernel
theorem dX9_draftBecomesModel_6 : decode cX9_draftBecomesModel 6 = .ok (.aload_n 0, 1) := by decide +kernel
theorem dX9_draftBecomesModel_7 : decode cX9_draftBecomesModel 7 = .ok (.getfield 23, 3) := by decide +kernel
theorem dX9_draftBecomesModel_10 : decode cX9_draftBecomesModel 10 = .ok (.putfield 19, 3) := by decide +kernel
theorem dX9_draftBecomesModel_13 : decode cX9_draftBecomesModel 13 = .ok (.aload_n 0, 1) := by decide +kernel
theorem dX9_draftBecomesModel_14 : decode cX9_draftBecomesModel 14 = .ok (.aload_n 1, 1) := by decide +kernel
theorem dX9_draftBecomesModel_15 : decode cX9_draftBecomesModel 15 = .ok (.putfield 23, 3) := by decide +kernel
theorem dX9_draftBecomesModel_18 : decode cX9_draftBecomesModel 18 = .ok (.aload_n 0, 1) := by decide +kernel
theorem dX9_draftBecomesModel_19 : decode cX9_draftBecomesModel 19 = .ok (.iconst 1, 1) := by decide +kernel
theorem dX9_draftBecomesModel_20 : decode cX9_draftBecomesModel 20 = .ok (.putfield 29, 3) := by decide +kernel
theorem dX9_draftBecomesModel_23 : decode cX9_draftBecomesModel 23 = .ok (.aload_n 0, 1) := by decide +kernel
theorem dX9_draftBecomesModel_24 : decode cX9_draftBecomesModel 24 = .ok (.iconst 0, 1) := by decide +kernel
theorem dX9_draftBecomesModel_25 : decode cX9_draftBecomesModel 25 = .ok (.putfield 33, 3) := by decide +kernel
theorem dX9_draftBecomesModel_28 : decode cX9_draftBecomesModel 28 = .ok (.aload_n 0, 1) := by decide +kernel
theorem dX9_draftBecomesModel_29 : decode cX9_draftBecomesModel 29 = .ok (.iconst 0, 1) := by decide +kernel
theorem dX9_draftBecomesModel_30 : decode cX9_draftBecomesModel 30 = .ok (.putfield 67, 3) := by decide +kernel
theorem dX9_draftBecomesModel_33 : decode cX9_draftBecomesModel 33 = .ok (.aload_n 0, 1) := by decide +kernel
theorem dX9_draftBecomesModel_34 : decode cX9_draftBecomesModel 34 = .ok (.getfield 53, 3) := by decide +kernel
theorem dX9_draftBecomesModel_37 : decode cX9_draftBecomesModel 37 = .ok (.aload_n 0, 1) := by decide +kernel
theorem dX9_draftBecomesModel_38 : decode cX9_draftBecomesModel 38 = .ok (.getfield 19, 3) := by decide +kernel
theorem dX9_draftBecomesModel_41 : decode cX9_draftBecomesModel 41 = .ok (.invokevirtual 147, 3) := by decide +kernel
theorem dX9_draftBecomesModel_44 : decode cX9_draftBecomesModel 44 = .ok (.iconst 0, 1) := by decide +kernel
theorem dX9_draftBecomesModel_45 : decode cX9_draftBecomesModel 45 = .ok (.istore_n 2, 1) := by decide +kernel
theorem dX9_draftBecomesModel_46 : decode cX9_draftBecomesModel 46 = .ok (.iload_n 2, 1) := by decide +kernel
theorem dX9_draftBecomesModel_47 : decode cX9_draftBecomesModel 47 = .ok (.bipush 16, 2) := by decide +kernel
theorem dX9_draftBecomesModel_49 : decode cX9_draftBecomesModel 49 = .ok (.if_icmp .ge 23, 3) := by decide +kernel
theorem dX9_draftBecomesModel_52 : decode cX9_draftBecomesModel 52 = .ok (.aload_n 0, 1) := by decide +kernel
theorem dX9_draftBecomesModel_53 : decode cX9_draftBecomesModel 53 = .ok (.getfield 46, 3) := by decide +kernel
theorem dX9_draftBecomesModel_56 : decode cX9_draftBecomesModel 56 = .ok (.iload_n 2, 1) := by decide +kernel
theorem dX9_draftBecomesModel_57 : decode cX9_draftBecomesModel 57 = .ok (.aload_n 0, 1) := by decide +kernel
theorem dX9_draftBecomesModel_58 : decode cX9_draftBecomesModel 58 = .ok (.getfield 19, 3) := by decide +kernel
theorem dX9_draftBecomesModel_61 : decode cX9_draftBecomesModel 61 = .ok (.iload_n 2, 1) := by decide +kernel
theorem dX9_draftBecomesModel_62 : decode cX9_draftBecomesModel 62 = .ok (.invokevirtual 347, 3) := by decide +kernel
theorem dX9_draftBecomesModel_65 : decode cX9_draftBecomesModel 65 = .ok (.iastore, 1) := by decide +kernel
theorem dX9_draftBecomesModel_66 : decode cX9_draftBecomesModel 66 = .ok (.iinc 2 1, 3) := by decide +kernel
theorem dX9_draftBecomesModel_69 : decode cX9_draftBecomesModel 69 = .ok (.goto (-23), 3) := by decide +kernel
theorem dX9_draftBecomesModel_72 : decode cX9_draftBecomesModel 72 = .ok (.return_, 1) := by decide +kernel
theorem dX9_pointHolds_0 : decode cX9_pointHolds 0 = .ok (.aload_n 0, 1) := by decide +kernel
theorem dX9_pointHolds_1 : decode cX9_pointHolds 1 = .ok (.getfield 23, 3) := by decide +kernel
theorem dX9_pointHolds_4 : decode cX9_pointHolds 4 = .ok (.aload_n 0, 1) := by decide +kernel
theorem dX9_pointHolds_5 : decode cX9_pointHolds 5 = .ok (.getfield 19, 3) := by decide +kernel
theorem dX9_pointHolds_8 : decode cX9_pointHolds 8 = .ok (.invokevirtual 316, 3) := by decide +kernel
theorem dX9_pointHolds_11 : decode cX9_pointHolds 11 = .ok (.aload_n 0, 1) := by decide +kernel
theorem dX9_pointHolds_12 : decode cX9_pointHolds 12 = .ok (.getfield 81, 3) := by decide +kernel
theorem dX9_pointHolds_15 : decode cX9_pointHolds 15 = .ok (.iload_n 1, 1) := by decide +kernel
theorem dX9_pointHolds_16 : decode cX9_pointHolds 16 = .ok (.aload_n 0, 1) := by decide +kernel
theorem dX9_pointHolds_17 : decode cX9_pointHolds 17 = .ok (.getfield 23, 3) := by decide +kernel
theorem dX9_pointHolds_20 : decode cX9_pointHolds 20 = .ok (.invokevirtual 350, 3) := by decide +kernel
theorem dX9_pointHolds_23 : decode cX9_pointHolds 23 = .ok (.ifCond .ne 5, 3) := by decide +kernel
theorem dX9_pointHolds_26 : decode cX9_pointHolds 26 = .ok (.iconst 0, 1) := by decide +kernel
theorem dX9_pointHolds_27 : decode cX9_pointHolds 27 = .ok (.ireturn, 1) := by decide +kernel
theorem dX9_pointHolds_28 : decode cX9_pointHolds 28 = .ok (.aload_n 0, 1) := by decide +kernel
theorem dX9_pointHolds_29 : decode cX9_pointHolds 29 = .ok (.getfield 57, 3) := by decide +kernel
theorem dX9_pointHolds_32 : decode cX9_pointHolds 32 = .ok (.aload_n 0, 1) := by decide +kernel
theorem dX9_pointHolds_33 : decode cX9_pointHolds 33 = .ok (.getfield 23, 3) := by decide +kernel
theorem dX9_pointHolds_36 : decode cX9_pointHolds 36 = .ok (.invokevirtual 147, 3) := by decide +kernel
theorem dX9_pointHolds_39 : decode cX9_pointHolds 39 = .ok (.aload_n 0, 1) := by decide +kernel
theorem dX9_pointHolds_40 : decode cX9_pointHolds 40 = .ok (.getfield 74, 3) := by decide +kernel
theorem dX9_pointHolds_43 : decode cX9_pointHolds 43 = .ok (.invokevirtual 354, 3) := by decide +kernel
theorem dX9_pointHolds_46 : decode cX9_pointHolds 46 = .ok (.istore_n 2, 1) := by decide +kernel
theorem dX9_pointHolds_47 : decode cX9_pointHolds 47 = .ok (.iconst 0, 1) := by decide +kernel
theorem dX9_pointHolds_48 : decode cX9_pointHolds 48 = .ok (.istore_n 3, 1) := by decide +kernel
theorem dX9_pointHolds_49 : decode cX9_pointHolds 49 = .ok (.iload_n 3, 1) := by decide +kernel
theorem dX9_pointHolds_50 : decode cX9_pointHolds 50 = .ok (.iload_n 2, 1) := by decide +kernel
theorem dX9_pointHolds_51 : decode cX9_pointHolds 51 = .ok (.if_icmp .gt 53, 3) := by decide +kernel
theorem dX9_pointHolds_54 : decode cX9_pointHolds 54 = .ok (.aload_n 0, 1) := by decide +kernel
theorem dX9_pointHolds_55 : decode cX9_pointHolds 55 = .ok (.getfield 57, 3) := by decide +kernel
theorem dX9_pointHolds_58 : decode cX9_pointHolds 58 = .ok (.aload_n 0, 1) := by decide +kernel
theorem dX9_pointHolds_59 : decode cX9_pointHolds 59 = .ok (.getfield 23, 3) := by decide +kernel
theorem dX9_pointHolds_62 : decode cX9_pointHolds 62 = .ok (.aload_n 0, 1) := by decide +kernel
theorem dX9_pointHolds_63 : decode cX9_pointHolds 63 = .ok (.getfield 39, 3) := by decide +kernel
theorem dX9_pointHolds_66 : decode cX9_pointHolds 66 = .ok (.iload_n 3, 1) := by decide +kernel
theorem dX9_pointHolds_67 : decode cX9_pointHolds 67 = .ok (.invokevirtual 357, 3) := by decide +kernel
theorem dX9_pointHolds_70 : decode cX9_pointHolds 70 = .ok (.aload_n 0, 1) := by decide +kernel
theorem dX9_pointHolds_71 : decode cX9_pointHolds 71 = .ok (.getfield 39, 3) := by decide +kernel
theorem dX9_pointHolds_74 : decode cX9_pointHolds 74 = .ok (.iload_n 3, 1) := by decide +kernel
theorem dX9_pointHolds_75 : decode cX9_pointHolds 75 = .ok (.invokevirtual 360, 3) := by decide +kernel
theorem dX9_pointHolds_78 : decode cX9_pointHolds 78 = .ok (.invokevirtual 363, 3) := by decide +kernel
theorem dX9_pointHolds_81 : decode cX9_pointHolds 81 = .ok (.aload_n 0, 1) := by decide +kernel
theorem dX9_pointHolds_82 : decode cX9_pointHolds 82 = .ok (.getfield 74, 3) := by decide +kernel
theorem dX9_pointHolds_85 : decode cX9_pointHolds 85 = .ok (.aload_n 0, 1) := by decide +kernel
theorem dX9_pointHolds_86 : decode cX9_pointHolds 86 = .ok (.getfield 57, 3) := by decide +kernel
theorem dX9_pointHolds_89 : decode cX9_pointHolds 89 = .ok (.iload_n 3, 1) := by decide +kernel
theorem dX9_pointHolds_90 : decode cX9_pointHolds 90 = .ok (.invokevirtual 367, 3) := by decide +kernel
theorem dX9_pointHolds_93 : decode cX9_pointHolds 93 = .ok (.ifCond .ne 5, 3) := by decide +kernel
theorem dX9_pointHolds_96 : decode cX9_pointHolds 96 = .ok (.iconst 0, 1) := by decide +kernel
theorem dX9_pointHolds_97 : decode cX9_pointHolds 97 = .ok (.ireturn, 1) := by decide +kernel
theorem dX9_pointHolds_98 : decode cX9_pointHolds 98 = .ok (.iinc 3 1, 3) := by decide +kernel
theorem dX9_pointHolds_101 : decode cX9_pointHolds 101 = .ok (.goto (-52), 3) := by decide +kernel
theorem dX9_pointHolds_104 : decode cX9_pointHolds 104 = .ok (.iconst 1, 1) := by decide +kernel
theorem dX9_pointHolds_105 : decode cX9_pointHolds 105 = .ok (.ireturn, 1) := by decide +kernel
def uhX9_lacksItem : List Cond := .code yX9_lacksItem cX9_lacksItem 2 (some .boolean) :: ([.fieldLink RX9 29 "RiverModel" "isBuilt" "Z", .fieldLink RX9 19 "RiverModel" "model" "LRiverModel$Model;", .fieldLink RX9 124 "RiverModel$Model" "many" "I"] ++ wsX90 ++ wsX40)
set_option maxHeartbeats 4000000 in
set_option maxRecDepth 100000 in
theorem h_X9_lacksItem (l : Launch) (D : va_G) (t : Nat → Nat) (cI cL cC : ClassId) (gC : Int32) (gP : Int32) (gT : Nat → Int32) (gR : Nat → Int32) (mm : Int32) (ms : Int32) (mg : Int32) (mL : Nat → Int32) (mQ : Nat → Int32) (mZ : Nat → Int32) (dm : Int32) (ds : Int32) (dg : Int32) (dL : Nat → Int32) (dQ : Nat → Int32) (dZ : Nat → Int32) (om : Int32) (os : Int32) (og : Int32) (oL : Nat → Int32) (oQ : Nat → Int32) (oZ : Nat → Int32) (gB : Int32) (gO : Int32) (xk : Int32) (gE : Int32) (gV : Nat → Int32) (gU : Nat → Int32) (gN : Nat → Int32) (G : Nat) (gW : Nat → Int32) (gA : Nat → Int32) (a0 : Nat) (a1 : Int32) (uq : ∀ b c : Nat, t b = t c → uqK (t b) = true → b = c) (k_a0 : t a0 = 1) : tM l yX9_lacksItem uhX9_lacksItem 0 0 D (hF cI cL cC gC gP gT gR mm ms mg mL mQ mZ dm ds dg dL dQ dZ om os og oL oQ oZ gB gO xk gE gV gU gN G gW gA) (hF cI cL cC gC gP gT gR mm ms mg mL mQ mZ dm ds dg dL dQ dZ om os og oL oQ oZ gB gO xk gE gV gU gN G gW gA) t cI cL cC [.ref a0, .int a1] wr0 (pI (fun r => (r = 1 ∧ (gB.toInt = 0 ∨ mm.toInt ≤ a1.toInt)) ∨ (r = 0 ∧ gB.toInt ≠ 0 ∧ a1.toInt < mm.toInt))) := by
  refine tM.ofW (cc := cX9_lacksItem) (maxL := 2) (ret := (some .boolean)) (by decide) rfl (Nat.le_of_ble_eq_true rfl) ?_
  intro p e s m below meth c hx hb hr hml hown hts hlk H locs hG hK hE hS ls hl
  have hl : lv_has ls 2 [(0, .ref a0), (1, .int a1)] := hl
  have in9 : ∀ w ∈ wsX90, w ∈ uhX9_lacksItem := fun w h => List.mem_cons_of_mem _ (List.mem_append_left _ (List.mem_append_right _ h))
  have in4 : ∀ w ∈ wsX40, w ∈ uhX9_lacksItem := fun w h => List.mem_cons_of_mem _ (List.mem_append_right _ h)
  refine lv_aload_n hx hb dX9_lacksItem_0 rfl (lv_at hl 0 rfl) ?_
  obtain ⟨r_1, r_3, r_5, r_7, r_9, r_11, r_13, r_15, r_17, r_19, r_21, r_23, r_25, r_27, r_29, at_31, h_2, h_4, h_6, h_8, h_10, h_12, h_14, h_16, h_18, h_20, h_22, h_24, h_26, h_28, h_30⟩ := hF_o1 hG k_a0
  refine va_get (D := D) (ci := 8) (v := .int gB) (C := RX9) (T := TX9) (N := 18) hx hb hts in9 hown hK (va_one at_31) 0 rfl rfl 4 (by decide) (hts (.fieldLink RX9 29 "RiverModel" "isBuilt" "Z") (List.mem_of_getElem? (i := 1) rfl)) (fun _ h9 => h9) rfl dX9_lacksItem_1 ?_
  refine lv_if_eq (tgt := 18) hx hb dX9_lacksItem_4 (by decide) (fun c_32 => ?_) (fun c_32 => ?_)
  · skip
    have c_32 : gB.toInt = 0 := q_eq c_32
    refine lv_iconst (v := 1) hx hb dX9_lacksItem_18 (by decide) ?_
    refine lv_goto (tgt := 23) hx hb dX9_lacksItem_19 (by decide) ?_
    have zi_1 : (1 : Int32).toInt = 1 := by decide
    exact ty_zret hx hb hr hlk rfl hG hS (Or.inl ⟨rfl, (by show gB.toInt = 0 ∨ mm.toInt ≤ a1.toInt; omega)⟩) dX9_lacksItem_23
  · skip
    have c_32 : gB.toInt ≠ 0 := q_ne c_32
    refine lv_iload_n hx hb dX9_lacksItem_7 rfl (lv_at hl 1 rfl) ?_
    refine lv_pc (pc2 := 8) rfl ?_
    refine lv_aload_n hx hb dX9_lacksItem_8 rfl (lv_at hl 0 rfl) ?_
    refine va_get (D := D) (ci := 8) (v := .ref r_3) (C := RX9) (T := TX9) (N := 18) hx hb hts in9 hown hK (va_one at_31) 0 rfl rfl 1 (by decide) (hts (.fieldLink RX9 19 "RiverModel" "model" "LRiverModel$Model;") (List.mem_of_getElem? (i := 2) rfl)) (fun _ h9 => h9) rfl dX9_lacksItem_9 ?_
    obtain ⟨r_33, r_35, r_37, at_39, h_34, h_36, h_38⟩ := hF_o3 hG h_4
    refine va_get (D := D) (ci := 3) (v := .int mm) (C := RX4) (T := TX4) (N := 6) hx hb hts in4 hown hK (va_one at_39) 0 rfl rfl 3 (by decide) (hts (.fieldLink RX9 124 "RiverModel$Model" "many" "I") (List.mem_of_getElem? (i := 3) rfl)) (fun _ h9 => h9) rfl dX9_lacksItem_12 ?_
    refine lv_icmp_lt (tgt := 22) hx hb dX9_lacksItem_15 (by decide) (fun c_40 => ?_) (fun c_40 => ?_)
    · skip
      have c_40 : a1.toInt < mm.toInt := q_lt c_40
      refine lv_iconst (v := 0) hx hb dX9_lacksItem_22 (by decide) ?_
      have zi_0 : (0 : Int32).toInt = 0 := by decide
      exact ty_zret hx hb hr hlk rfl hG hS (Or.inr ⟨rfl, (by show gB.toInt ≠ 0; omega), (by show a1.toInt < mm.toInt; omega)⟩) dX9_lacksItem_23
    · skip
      have c_40 : mm.toInt ≤ a1.toInt := q_nlt c_40
      refine lv_iconst (v := 1) hx hb dX9_lacksItem_18 (by decide) ?_
      refine lv_goto (tgt := 23) hx hb dX9_lacksItem_19 (by decide) ?_
      refine lv_pc (pc2 := 23) rfl ?_
      have zi_1 : (1 : Int32).toInt = 1 := by decide
      exact ty_zret hx hb hr hlk rfl hG hS (Or.inl ⟨rfl, (by show gB.toInt = 0 ∨ mm.toInt ≤ a1.toInt; omega)⟩) dX9_lacksItem_23

def uhX9_lacksStore : List Cond := .code yX9_lacksStore cX9_lacksStore 2 (some .boolean) :: ([.fieldLink RX9 29 "RiverModel" "isBuilt" "Z", .fieldLink RX9 19 "RiverModel" "model" "LRiverModel$Model;", .methodLink RX9 343 yX4_hasStore, .instanceMethod yX4_hasStore, .selects RX4 yX4_hasStore yX4_hasStore, .initialized RX4, .code yX4_hasStore cX4_hasStore 2 (some .boolean), .fieldLink RX4 15 "RiverModel$Model" "storeItems" "[I"] ++ wsX90 ++ wsX40)
set_option maxRecDepth 20000 in
theorem gu_hX9_lacksStore_vX4_hasStore_343 : GoodIn uhX9_lacksStore (wsV RX9 343 RX4 yX4_hasStore uvX4_hasStore) := goodIn_r _ [3, 4, 5, 6, 7, 8, 27, 28, 29, 30, 31, 32] rfl (by decide +kernel)
set_option maxHeartbeats 4000000 in
set_option maxRecDepth 100000 in
theorem h_X9_lacksStore (l : Launch) (D : va_G) (t : Nat → Nat) (cI cL cC : ClassId) (gC : Int32) (gP : Int32) (gT : Nat → Int32) (gR : Nat → Int32) (mm : Int32) (ms : Int32) (mg : Int32) (mL : Nat → Int32) (mQ : Nat → Int32) (mZ : Nat → Int32) (dm : Int32) (ds : Int32) (dg : Int32) (dL : Nat → Int32) (dQ : Nat → Int32) (dZ : Nat → Int32) (om : Int32) (os : Int32) (og : Int32) (oL : Nat → Int32) (oQ : Nat → Int32) (oZ : Nat → Int32) (gB : Int32) (gO : Int32) (xk : Int32) (gE : Int32) (gV : Nat → Int32) (gU : Nat → Int32) (gN : Nat → Int32) (G : Nat) (gW : Nat → Int32) (gA : Nat → Int32) (a0 : Nat) (a1 : Int32) (uq : ∀ b c : Nat, t b = t c → uqK (t b) = true → b = c) (k_a0 : t a0 = 1) : tM l yX9_lacksStore uhX9_lacksStore 1 21 D (hF cI cL cC gC gP gT gR mm ms mg mL mQ mZ dm ds dg dL dQ dZ om os og oL oQ oZ gB gO xk gE gV gU gN G gW gA) (hF cI cL cC gC gP gT gR mm ms mg mL mQ mZ dm ds dg dL dQ dZ om os og oL oQ oZ gB gO xk gE gV gU gN G gW gA) t cI cL cC [.ref a0, .int a1] wr0 (pI (fun r => (r = 1 ∧ (gB.toInt = 0 ∨ ¬ hsQ mQ a1.toInt)) ∨ (r = 0 ∧ gB.toInt ≠ 0 ∧ hsQ mQ a1.toInt))) := by
  refine tM.ofW (cc := cX9_lacksStore) (maxL := 2) (ret := (some .boolean)) (by decide) rfl (Nat.le_of_ble_eq_true rfl) ?_
  intro p e s m below meth c hx hb hr hml hown hts hlk H locs hG hK hE hS ls hl
  have hl : lv_has ls 2 [(0, .ref a0), (1, .int a1)] := hl
  have in9 : ∀ w ∈ wsX90, w ∈ uhX9_lacksStore := fun w h => List.mem_cons_of_mem _ (List.mem_append_left _ (List.mem_append_right _ h))
  refine lv_aload_n hx hb dX9_lacksStore_0 rfl (lv_at hl 0 rfl) ?_
  obtain ⟨r_1, r_3, r_5, r_7, r_9, r_11, r_13, r_15, r_17, r_19, r_21, r_23, r_25, r_27, r_29, at_31, h_2, h_4, h_6, h_8, h_10, h_12, h_14, h_16, h_18, h_20, h_22, h_24, h_26, h_28, h_30⟩ := hF_o1 hG k_a0
  refine va_get (D := D) (ci := 8) (v := .int gB) (C := RX9) (T := TX9) (N := 18) hx hb hts in9 hown hK (va_one at_31) 0 rfl rfl 4 (by decide) (hts (.fieldLink RX9 29 "RiverModel" "isBuilt" "Z") (List.mem_of_getElem? (i := 1) rfl)) (fun _ h9 => h9) rfl dX9_lacksStore_1 ?_
  refine lv_if_eq (tgt := 18) hx hb dX9_lacksStore_4 (by decide) (fun c_32 => ?_) (fun c_32 => ?_)
  · skip
    have c_32 : gB.toInt = 0 := q_eq c_32
    refine lv_iconst (v := 1) hx hb dX9_lacksStore_18 (by decide) ?_
    refine lv_goto (tgt := 23) hx hb dX9_lacksStore_19 (by decide) ?_
    have zi_1 : (1 : Int32).toInt = 1 := by decide
    exact ty_zret hx hb hr hlk rfl hG hS (Or.inl ⟨rfl, (by show gB.toInt = 0 ∨ ¬ hsQ mQ a1.toInt; exact Or.inl (by omega))⟩) dX9_lacksStore_23
  · skip
    have c_32 : gB.toInt ≠ 0 := q_ne c_32
    refine lv_aload_n hx hb dX9_lacksStore_7 rfl (lv_at hl 0 rfl) ?_
    refine lv_pc (pc2 := 8) rfl ?_
    refine va_get (D := D) (ci := 8) (v := .ref r_3) (C := RX9) (T := TX9) (N := 18) hx hb hts in9 hown hK (va_one at_31) 0 rfl rfl 1 (by decide) (hts (.fieldLink RX9 19 "RiverModel" "model" "LRiverModel$Model;") (List.mem_of_getElem? (i := 2) rfl)) (fun _ h9 => h9) rfl dX9_lacksStore_8 ?_
    refine lv_iload_n hx hb dX9_lacksStore_11 rfl (lv_at hl 1 rfl) ?_
    have hV_33 : tG D (rF cI cL cC gC gP gT gR mm ms mg mL mQ mZ gE gV gU gN) (fun q => vwM (t q)) H := tG.vw hG (vwM_vw) rfl
    obtain ⟨r_34, r_36, r_38, at_40, h_35, h_37, h_39⟩ := hF_o3 hG h_4
    refine tw_calli (t := t) (W.runV (As := [.int a1]) (rest := []) ⟨hx, hb, hml, hown, hts⟩ (v_X4_hasStore l D (fun q => vwM (t q)) cI cL cC gC gP gT gR mm ms mg mL mQ mZ gE gV gU gN r_3 a1  (vwM_inj uq)  (show vwM (t r_3) = 3 by rw [h_4]; rfl)) (cwV 1 hts gu_hX9_lacksStore_vX4_hasStore_343 rfl rfl rfl (by decide +kernel) ⟨Nat.le_of_ble_eq_true rfl, Nat.le_of_ble_eq_true rfl⟩) (tP_V hV_33 hE at_40 rfl) rfl rfl hl.1 rfl (lv_room (Nat.le_of_ble_eq_true rfl)) dX9_lacksStore_12 ⟨Nat.le_of_ble_eq_true rfl, Nat.le_of_ble_eq_true rfl⟩) hS (fun q h => by simp [wr0] at h) (fun r_41 H locs hp_42 hV_45 hS o_43 => ?_)
    replace hG := tG.kept0 hG o_43
    have at_31 := va_at.keptC (t := (fun q => vwM (t q))) at_31 o_43 (show vwM (t a0) = 0 by rw [k_a0]; rfl) rfl
    have at_40 := va_at.keptC (t := (fun q => vwM (t q))) at_40 o_43 (show vwM (t r_3) = 3 by rw [h_4]; rfl) rfl
    clear hV_33 hV_45
    have hp_42 : (r_41 = 1 ∧ hsQ mQ a1.toInt) ∨ (r_41 = 0 ∧ ¬ hsQ mQ a1.toInt) := hp_42
    rcases hp_42 with ⟨rfl, p_46⟩ | ⟨rfl, p_47⟩
    · skip
      refine lv_if_ne (tgt := 22) hx hb dX9_lacksStore_15 (by decide) (fun _ => ?_) (fun q => absurd q (by decide))
      refine lv_iconst (v := 0) hx hb dX9_lacksStore_22 (by decide) ?_
      have zi_0 : (0 : Int32).toInt = 0 := by decide
      exact ty_zret hx hb hr hlk rfl hG hS (Or.inr ⟨rfl, (by show gB.toInt ≠ 0; omega), (show hsQ mQ a1.toInt from p_46)⟩) dX9_lacksStore_23
    · skip
      refine lv_if_ne (tgt := 22) hx hb dX9_lacksStore_15 (by decide) (fun q => absurd rfl q) (fun _ => ?_)
      refine lv_iconst (v := 1) hx hb dX9_lacksStore_18 (by decide) ?_
      refine lv_pc (pc2 := 19) rfl ?_
      refine lv_goto (tgt := 23) hx hb dX9_lacksStore_19 (by decide) ?_
      have zi_1 : (1 : Int32).toInt = 1 := by decide
      exact ty_zret hx hb hr hlk rfl hG hS (Or.inl ⟨rfl, (by show gB.toInt = 0 ∨ ¬ hsQ mQ a1.toInt; exact Or.inr p_47)⟩) dX9_lacksStore_23

def uhX9_lacksGauge : List Cond := .code yX9_lacksGauge cX9_lacksGauge 2 (some .boolean) :: ([.fieldLink RX9 29 "RiverModel" "isBuilt" "Z", .fieldLink RX9 74 "RiverModel" "gauges" "LRiverModel$Gauges;", .methodLink RX9 346 yX1_isSet, .instanceMethod yX1_isSet, .selects RX1 yX1_isSet yX1_isSet, .initialized RX1, .code yX1_isSet cX1_isSet 2 (some .boolean), .fieldLink RX1 9 "RiverModel$Gauges" "whats" "[I"] ++ wsX90 ++ wsX10)
set_option maxRecDepth 20000 in
theorem gu_hX9_lacksGauge_vX1_isSet_346 : GoodIn uhX9_lacksGauge (wsV RX9 346 RX1 yX1_isSet uvX1_isSet) := goodIn_r _ [3, 4, 5, 6, 7, 8, 27, 28, 29, 30] rfl (by decide +kernel)
set_option maxHeartbeats 4000000 in
set_option maxRecDepth 100000 in
theorem h_X9_lacksGauge (l : Launch) (D : va_G) (t : Nat → Nat) (cI cL cC : ClassId) (gC : Int32) (gP : Int32) (gT : Nat → Int32) (gR : Nat → Int32) (mm : Int32) (ms : Int32) (mg : Int32) (mL : Nat → Int32) (mQ : Nat → Int32) (mZ : Nat → Int32) (dm : Int32) (ds : Int32) (dg : Int32) (dL : Nat → Int32) (dQ : Nat → Int32) (dZ : Nat → Int32) (om : Int32) (os : Int32) (og : Int32) (oL : Nat → Int32) (oQ : Nat → Int32) (oZ : Nat → Int32) (gB : Int32) (gO : Int32) (xk : Int32) (gE : Int32) (gV : Nat → Int32) (gU : Nat → Int32) (gN : Nat → Int32) (G : Nat) (gW : Nat → Int32) (gA : Nat → Int32) (a0 : Nat) (a1 : Int32) (uq : ∀ b c : Nat, t b = t c → uqK (t b) = true → b = c) (k_a0 : t a0 = 1) : tM l yX9_lacksGauge uhX9_lacksGauge 1 21 D (hF cI cL cC gC gP gT gR mm ms mg mL mQ mZ dm ds dg dL dQ dZ om os og oL oQ oZ gB gO xk gE gV gU gN G gW gA) (hF cI cL cC gC gP gT gR mm ms mg mL mQ mZ dm ds dg dL dQ dZ om os og oL oQ oZ gB gO xk gE gV gU gN G gW gA) t cI cL cC [.ref a0, .int a1] wr0 (pI (fun r => (r = 1 ∧ (gB.toInt = 0 ∨ ¬ gsQ gV a1.toInt)) ∨ (r = 0 ∧ gB.toInt ≠ 0 ∧ gsQ gV a1.toInt))) := by
  refine tM.ofW (cc := cX9_lacksGauge) (maxL := 2) (ret := (some .boolean)) (by decide) rfl (Nat.le_of_ble_eq_true rfl) ?_
  intro p e s m below meth c hx hb hr hml hown hts hlk H locs hG hK hE hS ls hl
  have hl : lv_has ls 2 [(0, .ref a0), (1, .int a1)] := hl
  have in9 : ∀ w ∈ wsX90, w ∈ uhX9_lacksGauge := fun w h => List.mem_cons_of_mem _ (List.mem_append_left _ (List.mem_append_right _ h))
  refine lv_aload_n hx hb dX9_lacksGauge_0 rfl (lv_at hl 0 rfl) ?_
  obtain ⟨r_1, r_3, r_5, r_7, r_9, r_11, r_13, r_15, r_17, r_19, r_21, r_23, r_25, r_27, r_29, at_31, h_2, h_4, h_6, h_8, h_10, h_12, h_14, h_16, h_18, h_20, h_22, h_24, h_26, h_28, h_30⟩ := hF_o1 hG k_a0
  refine va_get (D := D) (ci := 8) (v := .int gB) (C := RX9) (T := TX9) (N := 18) hx hb hts in9 hown hK (va_one at_31) 0 rfl rfl 4 (by decide) (hts (.fieldLink RX9 29 "RiverModel" "isBuilt" "Z") (List.mem_of_getElem? (i := 1) rfl)) (fun _ h9 => h9) rfl dX9_lacksGauge_1 ?_
  refine lv_if_eq (tgt := 18) hx hb dX9_lacksGauge_4 (by decide) (fun c_32 => ?_) (fun c_32 => ?_)
  · skip
    have c_32 : gB.toInt = 0 := q_eq c_32
    refine lv_iconst (v := 1) hx hb dX9_lacksGauge_18 (by decide) ?_
    refine lv_goto (tgt := 23) hx hb dX9_lacksGauge_19 (by decide) ?_
    have zi_1 : (1 : Int32).toInt = 1 := by decide
    exact ty_zret hx hb hr hlk rfl hG hS (Or.inl ⟨rfl, (by show gB.toInt = 0 ∨ ¬ gsQ gV a1.toInt; exact Or.inl (by omega))⟩) dX9_lacksGauge_23
  · skip
    have c_32 : gB.toInt ≠ 0 := q_ne c_32
    refine lv_aload_n hx hb dX9_lacksGauge_7 rfl (lv_at hl 0 rfl) ?_
    refine lv_pc (pc2 := 8) rfl ?_
    refine va_get (D := D) (ci := 8) (v := .ref r_23) (C := RX9) (T := TX9) (N := 18) hx hb hts in9 hown hK (va_one at_31) 0 rfl rfl 14 (by decide) (hts (.fieldLink RX9 74 "RiverModel" "gauges" "LRiverModel$Gauges;") (List.mem_of_getElem? (i := 2) rfl)) (fun _ h9 => h9) rfl dX9_lacksGauge_8 ?_
    refine lv_iload_n hx hb dX9_lacksGauge_11 rfl (lv_at hl 1 rfl) ?_
    have hV_33 : tG D (rF cI cL cC gC gP gT gR mm ms mg mL mQ mZ gE gV gU gN) (fun q => vwM (t q)) H := tG.vw hG (vwM_vw) rfl
    obtain ⟨r_34, r_36, r_38, at_40, h_35, h_37, h_39⟩ := hF_o6 hG h_24
    refine tw_calli (t := t) (W.runV (As := [.int a1]) (rest := []) ⟨hx, hb, hml, hown, hts⟩ (v_X1_isSet l D (fun q => vwM (t q)) cI cL cC gC gP gT gR mm ms mg mL mQ mZ gE gV gU gN r_23 a1  (vwM_inj uq)  (show vwM (t r_23) = 6 by rw [h_24]; rfl)) (cwV 1 hts gu_hX9_lacksGauge_vX1_isSet_346 rfl rfl rfl (by decide +kernel) ⟨Nat.le_of_ble_eq_true rfl, Nat.le_of_ble_eq_true rfl⟩) (tP_V hV_33 hE at_40 rfl) rfl rfl hl.1 rfl (lv_room (Nat.le_of_ble_eq_true rfl)) dX9_lacksGauge_12 ⟨Nat.le_of_ble_eq_true rfl, Nat.le_of_ble_eq_true rfl⟩) hS (fun q h => by simp [wr0] at h) (fun r_41 H locs hp_42 hV_45 hS o_43 => ?_)
    replace hG := tG.kept0 hG o_43
    have at_31 := va_at.keptC (t := (fun q => vwM (t q))) at_31 o_43 (show vwM (t a0) = 0 by rw [k_a0]; rfl) rfl
    have at_40 := va_at.keptC (t := (fun q => vwM (t q))) at_40 o_43 (show vwM (t r_23) = 6 by rw [h_24]; rfl) rfl
    clear hV_33 hV_45
    have hp_42 : (r_41 = 1 ∧ gsQ gV a1.toInt) ∨ (r_41 = 0 ∧ ¬ gsQ gV a1.toInt) := hp_42
    rcases hp_42 with ⟨rfl, p_46⟩ | ⟨rfl, p_47⟩
    · skip
      refine lv_if_ne (tgt := 22) hx hb dX9_lacksGauge_15 (by decide) (fun _ => ?_) (fun q => absurd q (by decide))
      refine lv_iconst (v := 0) hx hb dX9_lacksGauge_22 (by decide) ?_
      have zi_0 : (0 : Int32).toInt = 0 := by decide
      exact ty_zret hx hb hr hlk rfl hG hS (Or.inr ⟨rfl, (by show gB.toInt ≠ 0; omega), (show gsQ gV a1.toInt from p_46)⟩) dX9_lacksGauge_23
    · skip
      refine lv_if_ne (tgt := 22) hx hb dX9_lacksGauge_15 (by decide) (fun q => absurd rfl q) (fun _ => ?_)
      refine lv_iconst (v := 1) hx hb dX9_lacksGauge_18 (by decide) ?_
      refine lv_pc (pc2 := 19) rfl ?_
      refine lv_goto (tgt := 23) hx hb dX9_lacksGauge_19 (by decide) ?_
      have zi_1 : (1 : Int32).toInt = 1 := by decide
      exact ty_zret hx hb hr hlk rfl hG hS (Or.inl ⟨rfl, (by show gB.toInt = 0 ∨ ¬ gsQ gV a1.toInt; exact Or.inr p_47)⟩) dX9_lacksGauge_23

def uhX9_clear : List Cond := .code yX9_clear cX9_clear 2 (some .int) :: ([.fieldLink RX9 10 "RiverModel" "text" "LRiverModel$Text;", .fieldLink RX9 103 "RiverModel$Text" "length" "I"] ++ wsX90 ++ wsX70)
set_option maxHeartbeats 4000000 in
set_option maxRecDepth 100000 in
theorem h_X9_clear (l : Launch) (D : va_G) (t : Nat → Nat) (cI cL cC : ClassId) (gC : Int32) (gP : Int32) (gT : Nat → Int32) (gR : Nat → Int32) (mm : Int32) (ms : Int32) (mg : Int32) (mL : Nat → Int32) (mQ : Nat → Int32) (mZ : Nat → Int32) (dm : Int32) (ds : Int32) (dg : Int32) (dL : Nat → Int32) (dQ : Nat → Int32) (dZ : Nat → Int32) (om : Int32) (os : Int32) (og : Int32) (oL : Nat → Int32) (oQ : Nat → Int32) (oZ : Nat → Int32) (gB : Int32) (gO : Int32) (xk : Int32) (gE : Int32) (gV : Nat → Int32) (gU : Nat → Int32) (gN : Nat → Int32) (G : Nat) (gW : Nat → Int32) (gA : Nat → Int32) (a0 : Nat) (uq : ∀ b c : Nat, t b = t c → uqK (t b) = true → b = c) (hC0 : 0 ≤ gC.toInt) (hC4 : gC.toInt ≤ 400) (hP0 : 0 ≤ gP.toInt) (hP4 : gP.toInt ≤ 400) (hTg : gBd 400 0 255 gT) (mg0 : 0 ≤ mg.toInt) (mg4 : mg.toInt ≤ 4) (dg0 : 0 ≤ dg.toInt) (dg4 : dg.toInt ≤ 4) (og0 : 0 ≤ og.toInt) (og4 : og.toInt ≤ 4) (xk0 : 0 ≤ xk.toInt) (xk3 : xk.toInt ≤ 3) (k_a0 : t a0 = 1) : tMx (Z := (Int32)) l yX9_clear uhX9_clear 0 0 D (hF cI cL cC gC gP gT gR mm ms mg mL mQ mZ dm ds dg dL dQ dZ om os og oL oQ oZ gB gO xk gE gV gU gN G gW gA) (fun z => (hF cI cL cC z gP gT gR mm ms mg mL mQ mZ dm ds dg dL dQ dZ om os og oL oQ oZ gB gO xk gE gV gU gN G gW gA)) t cI cL cC [.ref a0] hT (xI (fun r (z : (Int32)) => r = gC ∧ z = 0 ∧ 0 ≤ z.toInt ∧ z.toInt ≤ 400)) := by
  refine tMx.ofW (cc := cX9_clear) (maxL := 2) (ret := (some .int)) (by decide) rfl (Nat.le_of_ble_eq_true rfl) ?_
  intro p e s m below meth c hx hb hr hml hown hts hlk H locs hG hK hE hS ls hl
  have hl : lv_has ls 2 [(0, .ref a0)] := hl
  have in9 : ∀ w ∈ wsX90, w ∈ uhX9_clear := fun w h => List.mem_cons_of_mem _ (List.mem_append_left _ (List.mem_append_right _ h))
  have in7 : ∀ w ∈ wsX70, w ∈ uhX9_clear := fun w h => List.mem_cons_of_mem _ (List.mem_append_right _ h)
  refine lv_aload_n hx hb dX9_clear_0 rfl (lv_at hl 0 rfl) ?_
  obtain ⟨r_1, r_3, r_5, r_7, r_9, r_11, r_13, r_15, r_17, r_19, r_21, r_23, r_25, r_27, r_29, at_31, h_2, h_4, h_6, h_8, h_10, h_12, h_14, h_16, h_18, h_20, h_22, h_24, h_26, h_28, h_30⟩ := hF_o1 hG k_a0
  refine va_get (D := D) (ci := 8) (v := .ref r_1) (C := RX9) (T := TX9) (N := 18) hx hb hts in9 hown hK (va_one at_31) 0 rfl rfl 0 (by decide) (hts (.fieldLink RX9 10 "RiverModel" "text" "LRiverModel$Text;") (List.mem_of_getElem? (i := 1) rfl)) (fun _ h9 => h9) rfl dX9_clear_1 ?_
  obtain ⟨r_32, r_34, at_36, h_33, h_35⟩ := hF_o2 hG h_2
  refine va_get (D := D) (ci := 6) (v := .int gC) (C := RX7) (T := TX7) (N := 4) hx hb hts in7 hown hK (va_one at_36) 0 rfl rfl 2 (by decide) (hts (.fieldLink RX9 103 "RiverModel$Text" "length" "I") (List.mem_of_getElem? (i := 2) rfl)) (fun _ h9 => h9) rfl dX9_clear_4 ?_
  refine lv_istore_n (lv' := [(1, .int gC), (0, .ref a0)]) hx hb dX9_clear_7 rfl hl (by decide) rfl (fun ls hl => ?_)
  refine lv_aload_n hx hb dX9_clear_8 rfl (lv_at hl 1 rfl) ?_
  refine va_get (D := D) (ci := 8) (v := .ref r_1) (C := RX9) (T := TX9) (N := 18) hx hb hts in9 hown hK (va_one at_31) 0 rfl rfl 0 (by decide) (hts (.fieldLink RX9 10 "RiverModel" "text" "LRiverModel$Text;") (List.mem_of_getElem? (i := 1) rfl)) (fun _ h9 => h9) rfl dX9_clear_9 ?_
  refine lv_iconst (v := 0) hx hb dX9_clear_12 (by decide) ?_
  refine lv_pc (pc2 := 13) rfl ?_
  have zi_0 : (0 : Int32).toInt = 0 := by decide
  refine ty_put (D := D) (ci := 6) (v := .int 0) (ty := .int) (C := RX7) (T := TX7) (N := 4) (F2 := (hF cI cL cC 0 gP gT gR mm ms mg mL mQ mZ dm ds dg dL dQ dZ om os og oL oQ oZ gB gO xk gE gV gU gN G gW gA)) hx hb hts in7 tyX7 tyX7_ok nmX7 hown hK hG hS at_36 (by rw [h_2]; rfl) rfl 2 (by decide) (hts (.fieldLink RX9 103 "RiverModel$Text" "length" "I") (List.mem_of_getElem? (i := 2) rfl)) (fun _ h9 => h9) rfl (by decide +kernel) rfl rfl (Nat.le_of_ble_eq_true rfl) (by rw [h_2]; exact ⟨r_32, r_34, rfl, h_33, h_35⟩) (fun hG b hb h0 => by obtain ⟨e, g1, g2⟩ := hG b h0; exact ⟨e, g1, hF_gC (fun h => hb (uq b r_1 (h.trans h_2.symm) (by rw [h]; rfl))) g2⟩) dX9_clear_13 (fun H locs hG hS at_37 o_38 => ?_)
  have at_37 : va_at D vwCl (r_1, .inr (6, [.ref r_32, .ref r_34, .int 0, .int gP])) H := at_37
  have at_31 := va_at.keptK at_31 o_38 h_2 k_a0 rfl
  refine lv_iload_n hx hb dX9_clear_16 rfl (lv_at hl 0 rfl) ?_
  exact tx_iret (z := (0)) hx hb hr hlk hG hS ⟨(show gC = gC from rfl), (show (0 : Int32) = 0 from rfl), (by show 0 ≤ (0 : Int32).toInt; omega), (by show (0 : Int32).toInt ≤ 400; omega)⟩ dX9_clear_17

def uhX9_fault : List Cond := .code yX9_fault cX9_fault 1 (some .int) :: ([.fieldLink RX9 10 "RiverModel" "text" "LRiverModel$Text;", .fieldLink RX9 23 "RiverModel" "draft" "LRiverModel$Model;", .methodLink RX9 110 yX7_readInto, .instanceMethod yX7_readInto, .selects RX7 yX7_readInto yX7_readInto, .initialized RX7, .code yX7_readInto cX7_readInto 4 (some .int), .methodLink RX7 25 yX4_empty, .instanceMethod yX4_empty, .selects RX4 yX4_empty yX4_empty, .initialized RX4, .fieldLink RX7 22 "RiverModel$Text" "at" "I", .fieldLink RX7 18 "RiverModel$Text" "length" "I", .methodLink RX7 30 yX7_readItem, .instanceMethod yX7_readItem, .selects RX7 yX7_readItem yX7_readItem, .fieldLink RX7 15 "RiverModel$Text" "row" "[I", .methodLink RX7 34 yX4_mayFollow, .instanceMethod yX4_mayFollow, .selects RX4 yX4_mayFollow yX4_mayFollow, .methodLink RX7 38 yX4_add, .instanceMethod yX4_add, .selects RX4 yX4_add yX4_add, .code yX4_empty cX4_empty 1 none, .fieldLink RX4 21 "RiverModel$Model" "many" "I", .fieldLink RX4 25 "RiverModel$Model" "stores" "I", .fieldLink RX4 28 "RiverModel$Model" "gates" "I", .fieldLink RX4 15 "RiverModel$Model" "storeItems" "[I", .methodLink RX4 31 yJ7_fill_53178, .static yJ7_fill_53178, .initialized RJ7, .fieldLink RX4 18 "RiverModel$Model" "gateItems" "[I", .code yJ7_fill_53178 cJ7_fill_53178 4 none, .code yX7_readItem cX7_readItem 5 (some .boolean), .methodLink RX7 42 yJ7_fill_53178, .methodLink RX7 48 yX7_nextByte, .instanceMethod yX7_nextByte, .selects RX7 yX7_nextByte yX7_nextByte, .methodLink RX7 52 yX2_namesOf, .static yX2_namesOf, .initialized RX2, .methodLink RX7 62 yX2_numbersOf, .static yX2_numbersOf, .methodLink RX7 65 yX7_readNumber, .instanceMethod yX7_readNumber, .selects RX7 yX7_readNumber yX7_readNumber, .methodLink RX7 58 yX7_readName, .instanceMethod yX7_readName, .selects RX7 yX7_readName yX7_readName, .code yX7_nextByte cX7_nextByte 1 (some .int), .fieldLink RX7 9 "RiverModel$Text" "bytes" "[I", .code yX2_namesOf cX2_namesOf 1 (some .int), .code yX2_numbersOf cX2_numbersOf 1 (some .int), .code yX7_readNumber cX7_readNumber 4 (some .boolean), .methodLink RX7 71 yX7_isAtFigure, .instanceMethod yX7_isAtFigure, .selects RX7 yX7_isAtFigure yX7_isAtFigure, .code yX7_isAtFigure cX7_isAtFigure 1 (some .boolean), .initialized RX9, .static yX9_isOutside, .code yX9_isOutside cX9_isOutside 3 (some .boolean), .code yX7_readName cX7_readName 3 (some .boolean), .static yX9_isNoStore, .code yX9_isNoStore cX9_isNoStore 1 (some .boolean), .code yX4_mayFollow cX4_mayFollow 2 (some .boolean), .methodLink RX4 62 yX4_areNumbersAsTold, .static yX4_areNumbersAsTold, .methodLink RX4 69 yX4_areNamesAhead, .instanceMethod yX4_areNamesAhead, .selects RX4 yX4_areNamesAhead yX4_areNamesAhead, .methodLink RX4 66 yX4_hasStore, .instanceMethod yX4_hasStore, .selects RX4 yX4_hasStore yX4_hasStore, .code yX4_areNumbersAsTold cX4_areNumbersAsTold 1 (some .boolean), .methodLink RX4 77 yX2_areNumbersAsTold, .static yX2_areNumbersAsTold, .code yX2_areNumbersAsTold cX2_areNumbersAsTold 4 (some .boolean), .methodLink RX2 10 yX2_isUpTo, .static yX2_isUpTo, .constant RX2 9 (1000000), .code yX2_isUpTo cX2_isUpTo 2 (some .boolean), .code yX4_areNamesAhead cX4_areNamesAhead 5 (some .boolean), .methodLink RX4 82 yX4_isStoreAhead, .instanceMethod yX4_isStoreAhead, .selects RX4 yX4_isStoreAhead yX4_isStoreAhead, .code yX4_isStoreAhead cX4_isStoreAhead 3 (some .boolean), .code yX4_hasStore cX4_hasStore 2 (some .boolean), .code yX4_add cX4_add 2 none, .methodLink RX4 55 yX4_put, .instanceMethod yX4_put, .selects RX4 yX4_put yX4_put, .code yX4_put cX4_put 4 none, .methodLink RX4 51 yX4_putCell, .instanceMethod yX4_putCell, .selects RX4 yX4_putCell yX4_putCell, .code yX4_putCell cX4_putCell 4 none, .static yX9_isNoItem, .fieldLink RX4 9 "RiverModel$Model" "cells" "[I", .code yX9_isNoItem cX9_isNoItem 1 (some .boolean)] ++ wsX90 ++ wsX70 ++ wsX40)
set_option maxRecDepth 20000 in
theorem gu_hX9_fault_vX7_readInto_110 : GoodIn uhX9_fault (wsV RX9 110 RX7 yX7_readInto uvX7_readInto) := goodIn_r _ [3, 4, 5, 6, 7, 8, 9, 10, 11, 12, 13, 14, 15, 16, 6, 17, 18, 19, 20, 21, 22, 23, 24, 25, 26, 27, 28, 29, 30, 31, 32, 33, 34, 35, 36, 37, 38, 39, 40, 41, 42, 43, 44, 45, 46, 47, 48, 49, 50, 51, 52, 53, 54, 55, 56, 57, 58, 59, 60, 61, 62, 63, 64, 65, 66, 67, 68, 69, 70, 71, 72, 73, 74, 75, 76, 77, 78, 79, 80, 81, 82, 83, 84, 85, 86, 87, 88, 89, 90, 91, 92, 93, 94, 95, 96, 97, 98, 99, 118, 119, 120, 121, 122, 123, 124, 125, 126, 127] rfl (by decide +kernel)
set_option maxHeartbeats 4000000 in
set_option maxRecDepth 100000 in
theorem h_X9_fault (l : Launch) (D : va_G) (t : Nat → Nat) (cI cL cC : ClassId) (gC : Int32) (gP : Int32) (gT : Nat → Int32) (gR : Nat → Int32) (mm : Int32) (ms : Int32) (mg : Int32) (mL : Nat → Int32) (mQ : Nat → Int32) (mZ : Nat → Int32) (dm : Int32) (ds : Int32) (dg : Int32) (dL : Nat → Int32) (dQ : Nat → Int32) (dZ : Nat → Int32) (om : Int32) (os : Int32) (og : Int32) (oL : Nat → Int32) (oQ : Nat → Int32) (oZ : Nat → Int32) (gB : Int32) (gO : Int32) (xk : Int32) (gE : Int32) (gV : Nat → Int32) (gU : Nat → Int32) (gN : Nat → Int32) (G : Nat) (gW : Nat → Int32) (gA : Nat → Int32) (a0 : Nat) (uq : ∀ b c : Nat, t b = t c → uqK (t b) = true → b = c) (hC0 : 0 ≤ gC.toInt) (hC4 : gC.toInt ≤ 400) (hP0 : 0 ≤ gP.toInt) (hP4 : gP.toInt ≤ 400) (hTg : gBd 400 0 255 gT) (mg0 : 0 ≤ mg.toInt) (mg4 : mg.toInt ≤ 4) (dg0 : 0 ≤ dg.toInt) (dg4 : dg.toInt ≤ 4) (og0 : 0 ≤ og.toInt) (og4 : og.toInt ≤ 4) (xk0 : 0 ≤ xk.toInt) (xk3 : xk.toInt ≤ 3) (k_a0 : t a0 = 1) : tMx (Z := (Int32) × (Nat → Int32) × (Int32) × (Int32) × (Int32) × (Nat → Int32) × (Nat → Int32) × (Nat → Int32)) l yX9_fault uhX9_fault 5 112 D (hF cI cL cC gC gP gT gR mm ms mg mL mQ mZ dm ds dg dL dQ dZ om os og oL oQ oZ gB gO xk gE gV gU gN G gW gA) (fun z => (hF cI cL cC gC z.1 gT z.2.1 mm ms mg mL mQ mZ z.2.2.1 z.2.2.2.1 z.2.2.2.2.1 z.2.2.2.2.2.1 z.2.2.2.2.2.2.1 z.2.2.2.2.2.2.2 om os og oL oQ oZ gB gO xk gE gV gU gN G gW gA)) t cI cL cC [.ref a0] hF1 (xI (fun r (z : (Int32) × (Nat → Int32) × (Int32) × (Int32) × (Int32) × (Nat → Int32) × (Nat → Int32) × (Nat → Int32)) => resF (byT gT gC) gC.toInt r ∧ 0 ≤ z.1.toInt ∧ z.1.toInt ≤ 400 ∧ 0 ≤ z.2.2.2.2.1.toInt ∧ z.2.2.2.2.1.toInt ≤ 4)) := by
  refine tMx.ofW (cc := cX9_fault) (maxL := 1) (ret := (some .int)) (by decide) rfl (Nat.le_of_ble_eq_true rfl) ?_
  intro p e s m below meth c hx hb hr hml hown hts hlk H locs hG hK hE hS ls hl
  have hl : lv_has ls 1 [(0, .ref a0)] := hl
  have in9 : ∀ w ∈ wsX90, w ∈ uhX9_fault := fun w h => List.mem_cons_of_mem _ (List.mem_append_left _ (List.mem_append_left _ (List.mem_append_right _ h)))
  refine lv_aload_n hx hb dX9_fault_0 rfl (lv_at hl 0 rfl) ?_
  obtain ⟨r_1, r_3, r_5, r_7, r_9, r_11, r_13, r_15, r_17, r_19, r_21, r_23, r_25, r_27, r_29, at_31, h_2, h_4, h_6, h_8, h_10, h_12, h_14, h_16, h_18, h_20, h_22, h_24, h_26, h_28, h_30⟩ := hF_o1 hG k_a0
  refine va_get (D := D) (ci := 8) (v := .ref r_1) (C := RX9) (T := TX9) (N := 18) hx hb hts in9 hown hK (va_one at_31) 0 rfl rfl 0 (by decide) (hts (.fieldLink RX9 10 "RiverModel" "text" "LRiverModel$Text;") (List.mem_of_getElem? (i := 1) rfl)) (fun _ h9 => h9) rfl dX9_fault_1 ?_
  refine lv_aload_n hx hb dX9_fault_4 rfl (lv_at hl 0 rfl) ?_
  refine va_get (D := D) (ci := 8) (v := .ref r_5) (C := RX9) (T := TX9) (N := 18) hx hb hts in9 hown hK (va_one at_31) 0 rfl rfl 2 (by decide) (hts (.fieldLink RX9 23 "RiverModel" "draft" "LRiverModel$Model;") (List.mem_of_getElem? (i := 2) rfl)) (fun _ h9 => h9) rfl dX9_fault_5 ?_
  have hV_32 : tG D (rF cI cL cC gC gP gT gR dm ds dg dL dQ dZ gE gV gU gN) (fun q => vwD (t q)) H := tG.vw hG (vwD_vw) rfl
  obtain ⟨r_33, r_35, at_37, h_34, h_36⟩ := hF_o2 hG h_2
  refine tv_calli (t := t) (W.runV (As := [.ref r_5]) (rest := []) ⟨hx, hb, hml, hown, hts⟩ (v_X7_readInto l D (fun q => vwD (t q)) cI cL cC gC gP gT gR dm ds dg dL dQ dZ gE gV gU gN r_1 r_5  (vwD_inj uq) (by omega) (by omega) hTg (show vwD (t r_1) = 2 by rw [h_2]; rfl) (show vwD (t r_5) = 3 by rw [h_6]; rfl)) (cwV 1 hts gu_hX9_fault_vX7_readInto_110 rfl rfl rfl (by decide +kernel) ⟨Nat.le_of_ble_eq_true rfl, Nat.le_of_ble_eq_true rfl⟩) (tP_V hV_32 hE at_37 rfl) rfl rfl hl.1 rfl (lv_room (Nat.le_of_ble_eq_true rfl)) dX9_fault_8 ⟨Nat.le_of_ble_eq_true rfl, Nat.le_of_ble_eq_true rfl⟩) hS (fun q h => vwD_vTM_hF1 h) (fun r_38 zz_41 H locs hp_39 hV_42 hS o_40 => ?_)
  obtain ⟨gP_43, gR_44, gm_45, gs_46, gg_47, gL_48, gQ_49, gZ_50⟩ := zz_41
  replace hG : tG D (hF cI cL cC gC gP_43 gT gR_44 mm ms mg mL mQ mZ gm_45 gs_46 gg_47 gL_48 gQ_49 gZ_50 om os og oL oQ oZ gB gO xk gE gV gU gN G gW gA) t H := tG.unvw hG hV_42 o_40 rfl (vwD_vTM_b (gC := gC) (gP := gP) (gR := gR) (dm := dm) (ds := ds) (dg := dg) (dL := dL) (dQ := dQ) (dZ := dZ)) (vwD_vTM_o)
  have at_31 := va_at.keptC (t := (fun q => vwD (t q))) at_31 o_40 (show vwD (t a0) = 0 by rw [k_a0]; rfl) rfl
  clear hV_32 hV_42
  have hp_39 : rdR (byT gT gC) gC.toInt r_38.toInt gL_48 gQ_49 gm_45.toInt gs_46.toInt gg_47.toInt ∧ 0 ≤ gP_43.toInt ∧ gP_43.toInt ≤ 400 ∧ 0 ≤ gg_47.toInt ∧ gg_47.toInt ≤ 4 := hp_39
  obtain ⟨p_51, p_52, p_53, p_54, p_55⟩ := hp_39
  exact tx_iret (z := (gP_43, gR_44, gm_45, gs_46, gg_47, gL_48, gQ_49, gZ_50)) hx hb hr hlk hG hS ⟨(show resF (byT gT gC) gC.toInt r_38 from p_51.res), (by show 0 ≤ gP_43.toInt; omega), (by show gP_43.toInt ≤ 400; omega), (by show 0 ≤ gg_47.toInt; omega), (by show gg_47.toInt ≤ 4; omega)⟩ dX9_fault_11

def uhX9_write : List Cond := .code yX9_write cX9_write 4 (some .int) :: ([.methodLink RX9 99 yX9_isOutside, .static yX9_isOutside, .initialized RX9, .fieldLink RX9 10 "RiverModel" "text" "LRiverModel$Text;", .fieldLink RX9 103 "RiverModel$Text" "length" "I", .methodLink RX9 106 yX7_append, .instanceMethod yX7_append, .selects RX7 yX7_append yX7_append, .initialized RX7, .code yX9_isOutside cX9_isOutside 3 (some .boolean), .code yX7_append cX7_append 5 none, .fieldLink RX7 18 "RiverModel$Text" "length" "I", .fieldLink RX7 9 "RiverModel$Text" "bytes" "[I"] ++ wsX90 ++ wsX70)
set_option maxRecDepth 20000 in
theorem gu_hX9_write_aX9_isOutside_99 : GoodIn uhX9_write (va_wsS RX9 99 yX9_isOutside uaX9_isOutside) := goodIn_r _ [1, 2, 3, 10] rfl (by decide +kernel)
set_option maxRecDepth 20000 in
theorem gu_hX9_write_vX7_append_106 : GoodIn uhX9_write (wsV RX9 106 RX7 yX7_append uvX7_append) := goodIn_r _ [6, 7, 8, 9, 11, 12, 13, 32, 33, 34, 35] rfl (by decide +kernel)
set_option maxHeartbeats 4000000 in
set_option maxRecDepth 100000 in
theorem h_X9_write (l : Launch) (D : va_G) (t : Nat → Nat) (cI cL cC : ClassId) (gC : Int32) (gP : Int32) (gT : Nat → Int32) (gR : Nat → Int32) (mm : Int32) (ms : Int32) (mg : Int32) (mL : Nat → Int32) (mQ : Nat → Int32) (mZ : Nat → Int32) (dm : Int32) (ds : Int32) (dg : Int32) (dL : Nat → Int32) (dQ : Nat → Int32) (dZ : Nat → Int32) (om : Int32) (os : Int32) (og : Int32) (oL : Nat → Int32) (oQ : Nat → Int32) (oZ : Nat → Int32) (gB : Int32) (gO : Int32) (xk : Int32) (gE : Int32) (gV : Nat → Int32) (gU : Nat → Int32) (gN : Nat → Int32) (G : Nat) (gW : Nat → Int32) (gA : Nat → Int32) (a0 : Nat) (a1 : Int32) (a2 : Int64) (uq : ∀ b c : Nat, t b = t c → uqK (t b) = true → b = c) (hC0 : 0 ≤ gC.toInt) (hC4 : gC.toInt ≤ 400) (hP0 : 0 ≤ gP.toInt) (hP4 : gP.toInt ≤ 400) (hTg : gBd 400 0 255 gT) (mg0 : 0 ≤ mg.toInt) (mg4 : mg.toInt ≤ 4) (dg0 : 0 ≤ dg.toInt) (dg4 : dg.toInt ≤ 4) (og0 : 0 ≤ og.toInt) (og4 : og.toInt ≤ 4) (xk0 : 0 ≤ xk.toInt) (xk3 : xk.toInt ≤ 3) (k_a0 : t a0 = 1) : tMx (Z := (Int32) × (Nat → Int32)) l yX9_write uhX9_write 1 24 D (hF cI cL cC gC gP gT gR mm ms mg mL mQ mZ dm ds dg dL dQ dZ om os og oL oQ oZ gB gO xk gE gV gU gN G gW gA) (fun z => (hF cI cL cC z.1 gP z.2 gR mm ms mg mL mQ mZ dm ds dg dL dQ dZ om os og oL oQ oZ gB gO xk gE gV gU gN G gW gA)) t cI cL cC [.ref a0, .int a1, .long a2] hT (xI (fun r (z : (Int32) × (Nat → Int32)) => r = awr gC a1 ∧ z.1 = nwr gC a1 ∧ z.2 = nwT gT gC a1 a2 ∧ 0 ≤ z.1.toInt ∧ z.1.toInt ≤ 400 ∧ gBd 400 0 255 z.2)) := by
  refine tMx.ofW (cc := cX9_write) (maxL := 4) (ret := (some .int)) (by decide) rfl (Nat.le_of_ble_eq_true rfl) ?_
  intro p e s m below meth c hx hb hr hml hown hts hlk H locs hG hK hE hS ls hl
  have hl : lv_has ls 4 [(0, .ref a0), (1, .int a1), (2, .long a2)] := hl
  have in9 : ∀ w ∈ wsX90, w ∈ uhX9_write := fun w h => List.mem_cons_of_mem _ (List.mem_append_left _ (List.mem_append_right _ h))
  have in7 : ∀ w ∈ wsX70, w ∈ uhX9_write := fun w h => List.mem_cons_of_mem _ (List.mem_append_right _ h)
  refine lv_iload_n hx hb dX9_write_0 rfl (lv_at hl 1 rfl) ?_
  refine lv_iconst (v := 1) hx hb dX9_write_1 (by decide) ?_
  refine lv_bipush (v := 8) hx hb dX9_write_2 (by decide) ?_
  have zi_1 : (1 : Int32).toInt = 1 := by decide
  have zi_8 : (8 : Int32).toInt = 8 := by decide
  refine ty_calli (W.runS (As := [.int a1, .int 1, .int 8]) (rest := []) ⟨hx, hb, hml, hown, hts⟩ (a_X9_isOutside l D t cI cL cC (hF cI cL cC gC gP gT gR mm ms mg mL mQ mZ dm ds dg dL dQ dZ om os og oL oQ oZ gB gO xk gE gV gU gN G gW gA) a1 1 8 a1.toInt 1 8 rfl (by decide) (by decide) ) (va_cwS 3 hts gu_hX9_write_aX9_isOutside_99 rfl rfl rfl (by decide +kernel) ⟨Nat.le_of_ble_eq_true rfl, Nat.le_of_ble_eq_true rfl⟩) (tP_S hG hE) rfl rfl hl.1 rfl (lv_room (Nat.le_of_ble_eq_true rfl)) dX9_write_4 ⟨Nat.le_of_ble_eq_true rfl, Nat.le_of_ble_eq_true rfl⟩) hS (fun k h => by simp [wr0] at h) (fun r_1 H locs hp_2 hG hS o_3 => ?_)
  have hp_2 : (r_1 = 1 ∧ (a1.toInt < 1 ∨ 8 < a1.toInt)) ∨ (r_1 = 0 ∧ 1 ≤ a1.toInt ∧ a1.toInt ≤ 8) := hp_2
  rcases hp_2 with ⟨rfl, p_5⟩ | ⟨rfl, p_6, p_7⟩
  · skip
    refine lv_if_eq (tgt := 12) hx hb dX9_write_7 (by decide) (fun q => absurd q (by decide)) (fun _ => ?_)
    refine lv_iconst (v := (-1)) hx hb dX9_write_10 (by decide) ?_
    have zi_m1 : ((-1) : Int32).toInt = (-1) := by decide
    exact tx_iret (z := (gC, gT)) hx hb hr hlk hG hS ⟨(by show ((-1) : Int32) = awr gC a1; simp only [awr]; first | (rw [if_pos (by omega)]; done) | (rw [if_neg (by omega)]; done) | (rw [if_neg (by omega), if_pos (by omega)]; done) | (rw [if_neg (by omega), if_neg (by omega)]; done)), (by show gC = nwr gC a1; simp only [nwr]; first | (rw [if_pos (by omega)]; done) | (rw [if_neg (by omega)]; done) | (rw [if_neg (by omega), if_pos (by omega)]; done) | (rw [if_neg (by omega), if_neg (by omega)]; done)), (by show gT = nwT gT gC a1 a2; unfold nwT; first | (rw [if_pos (by omega)]; done) | (rw [if_neg (by omega), if_pos (by omega)]; done)), (by show 0 ≤ gC.toInt; omega), (by show gC.toInt ≤ 400; omega), (show gBd 400 0 255 gT from hTg)⟩ dX9_write_11
  · skip
    refine lv_pc (pc2 := 7) rfl ?_
    refine lv_if_eq (tgt := 12) hx hb dX9_write_7 (by decide) (fun _ => ?_) (fun q => absurd (by decide) q)
    refine lv_aload_n hx hb dX9_write_12 rfl (lv_at hl 0 rfl) ?_
    obtain ⟨r_8, r_10, r_12, r_14, r_16, r_18, r_20, r_22, r_24, r_26, r_28, r_30, r_32, r_34, r_36, at_38, h_9, h_11, h_13, h_15, h_17, h_19, h_21, h_23, h_25, h_27, h_29, h_31, h_33, h_35, h_37⟩ := hF_o1 hG k_a0
    refine va_get (D := D) (ci := 8) (v := .ref r_8) (C := RX9) (T := TX9) (N := 18) hx hb hts in9 hown hK (va_one at_38) 0 rfl rfl 0 (by decide) (hts (.fieldLink RX9 10 "RiverModel" "text" "LRiverModel$Text;") (List.mem_of_getElem? (i := 4) rfl)) (fun _ h9 => h9) rfl dX9_write_13 ?_
    obtain ⟨r_39, r_41, at_43, h_40, h_42⟩ := hF_o2 hG h_9
    refine va_get (D := D) (ci := 6) (v := .int gC) (C := RX7) (T := TX7) (N := 4) hx hb hts in7 hown hK (va_one at_43) 0 rfl rfl 2 (by decide) (hts (.fieldLink RX9 103 "RiverModel$Text" "length" "I") (List.mem_of_getElem? (i := 5) rfl)) (fun _ h9 => h9) rfl dX9_write_16 ?_
    refine lv_iload_n hx hb dX9_write_19 rfl (lv_at hl 1 rfl) ?_
    refine lv_iadd hx hb dX9_write_20 ?_
    refine lv_topi (fun x_44 e_45 => ?_)
    have i_x_44 : x_44.toInt = gC.toInt + a1.toInt := by rw [e_45]; exact (q_add (by omega) (by omega)).trans (by rfl)
    refine lv_sipush (v := 400) hx hb dX9_write_21 (by decide) ?_
    refine lv_icmp_le (tgt := 30) hx hb dX9_write_24 (by decide) (fun c_46 => ?_) (fun c_46 => ?_)
    · skip
      have c_46 : x_44.toInt ≤ 400 := q_le c_46
      refine lv_pc (pc2 := 30) rfl ?_
      refine lv_aload_n hx hb dX9_write_30 rfl (lv_at hl 0 rfl) ?_
      refine va_get (D := D) (ci := 8) (v := .ref r_8) (C := RX9) (T := TX9) (N := 18) hx hb hts in9 hown hK (va_one at_38) 0 rfl rfl 0 (by decide) (hts (.fieldLink RX9 10 "RiverModel" "text" "LRiverModel$Text;") (List.mem_of_getElem? (i := 4) rfl)) (fun _ h9 => h9) rfl dX9_write_31 ?_
      refine lv_iload_n hx hb dX9_write_34 rfl (lv_at hl 1 rfl) ?_
      refine lv_lload_n hx hb dX9_write_35 rfl (lv_at hl 2 rfl) ?_
      have hV_47 : tG D (rF cI cL cC gC gP gT gR mm ms mg mL mQ mZ gE gV gU gN) (fun q => vwM (t q)) H := tG.vw hG (vwM_vw) rfl
      refine tv_callv (t := t) (W.runV (As := [.int a1, .long a2]) (rest := []) ⟨hx, hb, hml, hown, hts⟩ (v_X7_append l D (fun q => vwM (t q)) cI cL cC gC gP gT gR mm ms mg mL mQ mZ gE gV gU gN r_8 a1 a2  (vwM_inj uq) (by omega) (by omega) (by omega) (by omega) (by omega) (show vwM (t r_8) = 2 by rw [h_9]; rfl)) (cwV 2 hts gu_hX9_write_vX7_append_106 rfl rfl rfl (by decide +kernel) ⟨Nat.le_of_ble_eq_true rfl, Nat.le_of_ble_eq_true rfl⟩) (tP_V hV_47 hE at_43 rfl) rfl rfl hl.1 rfl (lv_room (Nat.le_of_ble_eq_true rfl)) dX9_write_36 ⟨Nat.le_of_ble_eq_true rfl, Nat.le_of_ble_eq_true rfl⟩) hS (fun q h => vwM_vTB_hT h) (fun zz_51 H locs hp_49 hV_52 hS o_50 => ?_)
      obtain ⟨gC_53, gT_54⟩ := zz_51
      replace hG : tG D (hF cI cL cC gC_53 gP gT_54 gR mm ms mg mL mQ mZ dm ds dg dL dQ dZ om os og oL oQ oZ gB gO xk gE gV gU gN G gW gA) t H := tG.unvw hG hV_52 o_50 rfl (vwM_vTB_b (gC := gC) (gP := gP) (gT := gT)) (vwM_vTB_o)
      have at_38 := va_at.keptC (t := (fun q => vwM (t q))) at_38 o_50 (show vwM (t a0) = 0 by rw [k_a0]; rfl) rfl
      clear hV_47 hV_52
      have hp_49 : gC_53.toInt = gC.toInt + a1.toInt ∧ gT_54 = wriB a2 a1.toInt.toNat gT gC.toInt.toNat := hp_49
      obtain ⟨p_55, p_56⟩ := hp_49
      refine lv_aload_n hx hb dX9_write_39 rfl (lv_at hl 0 rfl) ?_
      refine va_get (D := D) (ci := 8) (v := .ref r_8) (C := RX9) (T := TX9) (N := 18) hx hb hts in9 hown hK (va_one at_38) 0 rfl rfl 0 (by decide) (hts (.fieldLink RX9 10 "RiverModel" "text" "LRiverModel$Text;") (List.mem_of_getElem? (i := 4) rfl)) (fun _ h9 => h9) rfl dX9_write_40 ?_
      obtain ⟨r_57, r_59, at_61, h_58, h_60⟩ := hF_o2 hG h_9
      refine va_get (D := D) (ci := 6) (v := .int gC_53) (C := RX7) (T := TX7) (N := 4) hx hb hts in7 hown hK (va_one at_61) 0 rfl rfl 2 (by decide) (hts (.fieldLink RX9 103 "RiverModel$Text" "length" "I") (List.mem_of_getElem? (i := 5) rfl)) (fun _ h9 => h9) rfl dX9_write_43 ?_
      refine lv_pc (pc2 := 46) rfl ?_
      exact tx_iret (z := (gC_53, gT_54)) hx hb hr hlk hG hS ⟨(by show gC_53 = awr gC a1; simp only [awr]; rw [if_neg (by omega), if_neg (by omega)]; exact Int32.toInt_inj.mp (by rw [q_add (by omega) (by omega)]; omega)), (by show gC_53 = nwr gC a1; simp only [nwr]; rw [if_neg (by omega), if_neg (by omega)]; exact Int32.toInt_inj.mp (by rw [q_add (by omega) (by omega)]; omega)), (by show gT_54 = nwT gT gC a1 a2; unfold nwT; rw [if_neg (by omega), if_neg (by omega)]; exact p_56), (by show 0 ≤ gC_53.toInt; omega), (by show gC_53.toInt ≤ 400; omega), (show gBd 400 0 255 gT_54 from (by rw [p_56]; exact wriB_bd hTg))⟩ dX9_write_46
    · skip
      have c_46 : 400 < x_44.toInt := q_nle c_46
      refine lv_bipush (v := (-3)) hx hb dX9_write_27 (by decide) ?_
      have zi_m3 : ((-3) : Int32).toInt = (-3) := by decide
      exact tx_iret (z := (gC, gT)) hx hb hr hlk hG hS ⟨(by show ((-3) : Int32) = awr gC a1; simp only [awr]; first | (rw [if_pos (by omega)]; done) | (rw [if_neg (by omega)]; done) | (rw [if_neg (by omega), if_pos (by omega)]; done) | (rw [if_neg (by omega), if_neg (by omega)]; done)), (by show gC = nwr gC a1; simp only [nwr]; first | (rw [if_pos (by omega)]; done) | (rw [if_neg (by omega)]; done) | (rw [if_neg (by omega), if_pos (by omega)]; done) | (rw [if_neg (by omega), if_neg (by omega)]; done)), (by show gT = nwT gT gC a1 a2; unfold nwT; first | (rw [if_pos (by omega)]; done) | (rw [if_neg (by omega), if_pos (by omega)]; done)), (by show 0 ≤ gC.toInt; omega), (by show gC.toInt ≤ 400; omega), (show gBd 400 0 255 gT from hTg)⟩ dX9_write_29

def uhX9_see : List Cond := .code yX9_see cX9_see 4 (some .int) :: ([.methodLink RX9 205 yX9_isNoGauge, .static yX9_isNoGauge, .initialized RX9, .methodLink RX9 99 yX9_isOutside, .static yX9_isOutside, .constant RX9 219 (10000000), .methodLink RX9 212 yX9_lacksGauge, .instanceMethod yX9_lacksGauge, .selects RX9 yX9_lacksGauge yX9_lacksGauge, .fieldLink RX9 74 "RiverModel" "gauges" "LRiverModel$Gauges;", .methodLink RX9 220 yX1_putSeen, .instanceMethod yX1_putSeen, .selects RX1 yX1_putSeen yX1_putSeen, .initialized RX1, .code yX9_isNoGauge cX9_isNoGauge 1 (some .boolean), .code yX9_isOutside cX9_isOutside 3 (some .boolean), .code yX9_lacksGauge cX9_lacksGauge 2 (some .boolean), .fieldLink RX9 29 "RiverModel" "isBuilt" "Z", .methodLink RX9 346 yX1_isSet, .instanceMethod yX1_isSet, .selects RX1 yX1_isSet yX1_isSet, .code yX1_isSet cX1_isSet 2 (some .boolean), .fieldLink RX1 9 "RiverModel$Gauges" "whats" "[I", .code yX1_putSeen cX1_putSeen 5 (some .int), .fieldLink RX1 18 "RiverModel$Gauges" "seen" "[I"] ++ wsX90 ++ wsX10)
set_option maxRecDepth 20000 in
theorem gu_hX9_see_aX9_isNoGauge_205 : GoodIn uhX9_see (va_wsS RX9 205 yX9_isNoGauge uaX9_isNoGauge) := goodIn_r _ [1, 2, 3, 15] rfl (by decide +kernel)
set_option maxRecDepth 20000 in
theorem gu_hX9_see_aX9_isOutside_99 : GoodIn uhX9_see (va_wsS RX9 99 yX9_isOutside uaX9_isOutside) := goodIn_r _ [4, 5, 3, 16] rfl (by decide +kernel)
set_option maxRecDepth 20000 in
theorem gu_hX9_see_hX9_lacksGauge_212 : GoodIn uhX9_see (wsV RX9 212 RX9 yX9_lacksGauge uhX9_lacksGauge) := goodIn_r _ [7, 8, 9, 3, 17, 18, 10, 19, 20, 21, 14, 22, 23, 26, 27, 28, 29, 30, 31, 32, 33, 34, 35, 36, 37, 38, 39, 40, 41, 42, 43, 44, 45, 46, 47] rfl (by decide +kernel)
set_option maxRecDepth 20000 in
theorem gu_hX9_see_vX1_putSeen_220 : GoodIn uhX9_see (wsV RX9 220 RX1 yX1_putSeen uvX1_putSeen) := goodIn_r _ [11, 12, 13, 14, 24, 3, 2, 5, 25, 15, 16, 44, 45, 46, 47] rfl (by decide +kernel)
set_option maxHeartbeats 4000000 in
set_option maxRecDepth 100000 in
theorem h_X9_see (l : Launch) (D : va_G) (t : Nat → Nat) (cI cL cC : ClassId) (gC : Int32) (gP : Int32) (gT : Nat → Int32) (gR : Nat → Int32) (mm : Int32) (ms : Int32) (mg : Int32) (mL : Nat → Int32) (mQ : Nat → Int32) (mZ : Nat → Int32) (dm : Int32) (ds : Int32) (dg : Int32) (dL : Nat → Int32) (dQ : Nat → Int32) (dZ : Nat → Int32) (om : Int32) (os : Int32) (og : Int32) (oL : Nat → Int32) (oQ : Nat → Int32) (oZ : Nat → Int32) (gB : Int32) (gO : Int32) (xk : Int32) (gE : Int32) (gV : Nat → Int32) (gU : Nat → Int32) (gN : Nat → Int32) (G : Nat) (gW : Nat → Int32) (gA : Nat → Int32) (a0 : Nat) (a1 : Int32) (a2 : Int32) (a3 : Int32) (uq : ∀ b c : Nat, t b = t c → uqK (t b) = true → b = c) (hC0 : 0 ≤ gC.toInt) (hC4 : gC.toInt ≤ 400) (hP0 : 0 ≤ gP.toInt) (hP4 : gP.toInt ≤ 400) (hTg : gBd 400 0 255 gT) (mg0 : 0 ≤ mg.toInt) (mg4 : mg.toInt ≤ 4) (dg0 : 0 ≤ dg.toInt) (dg4 : dg.toInt ≤ 4) (og0 : 0 ≤ og.toInt) (og4 : og.toInt ≤ 4) (xk0 : 0 ≤ xk.toInt) (xk3 : xk.toInt ≤ 3) (k_a0 : t a0 = 1) : tMx (Z := (Nat → Int32)) l yX9_see uhX9_see 2 46 D (hF cI cL cC gC gP gT gR mm ms mg mL mQ mZ dm ds dg dL dQ dZ om os og oL oQ oZ gB gO xk gE gV gU gN G gW gA) (fun z => (hF cI cL cC gC gP gT gR mm ms mg mL mQ mZ dm ds dg dL dQ dZ om os og oL oQ oZ gB gO xk gE gV gU z G gW gA)) t cI cL cC [.ref a0, .int a1, .int a2, .int a3] hG6 (xI (fun r (z : (Nat → Int32)) => (seeR (gB.toInt = 0 ∨ (gV a1.toInt.toNat).toInt = -4) gN a1 a2 a3 r z))) := by
  refine tMx.ofW (cc := cX9_see) (maxL := 4) (ret := (some .int)) (by decide) rfl (Nat.le_of_ble_eq_true rfl) ?_
  intro p e s m below meth c hx hb hr hml hown hts hlk H locs hG hK hE hS ls hl
  have hl : lv_has ls 4 [(0, .ref a0), (1, .int a1), (2, .int a2), (3, .int a3)] := hl
  have in9 : ∀ w ∈ wsX90, w ∈ uhX9_see := fun w h => List.mem_cons_of_mem _ (List.mem_append_left _ (List.mem_append_right _ h))
  refine lv_iload_n hx hb dX9_see_0 rfl (lv_at hl 1 rfl) ?_
  refine ty_calli (W.runS (As := [.int a1]) (rest := []) ⟨hx, hb, hml, hown, hts⟩ (a_X9_isNoGauge l D t cI cL cC (hF cI cL cC gC gP gT gR mm ms mg mL mQ mZ dm ds dg dL dQ dZ om os og oL oQ oZ gB gO xk gE gV gU gN G gW gA) a1   ) (va_cwS 1 hts gu_hX9_see_aX9_isNoGauge_205 rfl rfl rfl (by decide +kernel) ⟨Nat.le_of_ble_eq_true rfl, Nat.le_of_ble_eq_true rfl⟩) (tP_S hG hE) rfl rfl hl.1 rfl (lv_room (Nat.le_of_ble_eq_true rfl)) dX9_see_1 ⟨Nat.le_of_ble_eq_true rfl, Nat.le_of_ble_eq_true rfl⟩) hS (fun k h => by simp [wr0] at h) (fun r_1 H locs hp_2 hG hS o_3 => ?_)
  have hp_2 : (r_1 = 1 ∧ (a1.toInt < 0 ∨ 3 < a1.toInt)) ∨ (r_1 = 0 ∧ 0 ≤ a1.toInt ∧ a1.toInt ≤ 3) := hp_2
  rcases hp_2 with ⟨rfl, p_5⟩ | ⟨rfl, p_6, p_7⟩
  · skip
    refine lv_if_ne (tgt := 27) hx hb dX9_see_4 (by decide) (fun _ => ?_) (fun q => absurd q (by decide))
    refine lv_bipush (v := (-100)) hx hb dX9_see_27 (by decide) ?_
    have zi_m100 : ((-100) : Int32).toInt = (-100) := by decide
    exact tx_iret (z := (gN)) hx hb hr hlk hG hS (by show seeR (gB.toInt = 0 ∨ (gV a1.toInt.toNat).toInt = -4) gN a1 a2 a3 ((-100) : Int32) gN; exact Or.inl ⟨by unfold seeB; omega, by omega, rfl⟩) dX9_see_29
  · skip
    refine lv_if_ne (tgt := 27) hx hb dX9_see_4 (by decide) (fun q => absurd rfl q) (fun _ => ?_)
    refine lv_iload_n hx hb dX9_see_7 rfl (lv_at hl 2 rfl) ?_
    refine lv_pc (pc2 := 8) rfl ?_
    refine lv_iconst (v := 0) hx hb dX9_see_8 (by decide) ?_
    refine lv_bipush (v := 95) hx hb dX9_see_9 (by decide) ?_
    have zi_0 : (0 : Int32).toInt = 0 := by decide
    have zi_95 : (95 : Int32).toInt = 95 := by decide
    refine ty_calli (W.runS (As := [.int a2, .int 0, .int 95]) (rest := []) ⟨hx, hb, hml, hown, hts⟩ (a_X9_isOutside l D t cI cL cC (hF cI cL cC gC gP gT gR mm ms mg mL mQ mZ dm ds dg dL dQ dZ om os og oL oQ oZ gB gO xk gE gV gU gN G gW gA) a2 0 95 a2.toInt 0 95 rfl (by decide) (by decide) ) (va_cwS 3 hts gu_hX9_see_aX9_isOutside_99 rfl rfl rfl (by decide +kernel) ⟨Nat.le_of_ble_eq_true rfl, Nat.le_of_ble_eq_true rfl⟩) (tP_S hG hE) rfl rfl hl.1 rfl (lv_room (Nat.le_of_ble_eq_true rfl)) dX9_see_11 ⟨Nat.le_of_ble_eq_true rfl, Nat.le_of_ble_eq_true rfl⟩) hS (fun k h => by simp [wr0] at h) (fun r_8 H locs hp_9 hG hS o_10 => ?_)
    have hp_9 : (r_8 = 1 ∧ (a2.toInt < 0 ∨ 95 < a2.toInt)) ∨ (r_8 = 0 ∧ 0 ≤ a2.toInt ∧ a2.toInt ≤ 95) := hp_9
    rcases hp_9 with ⟨rfl, p_12⟩ | ⟨rfl, p_13, p_14⟩
    · skip
      refine lv_if_ne (tgt := 27) hx hb dX9_see_14 (by decide) (fun _ => ?_) (fun q => absurd q (by decide))
      refine lv_bipush (v := (-100)) hx hb dX9_see_27 (by decide) ?_
      have zi_m100 : ((-100) : Int32).toInt = (-100) := by decide
      exact tx_iret (z := (gN)) hx hb hr hlk hG hS (by show seeR (gB.toInt = 0 ∨ (gV a1.toInt.toNat).toInt = -4) gN a1 a2 a3 ((-100) : Int32) gN; exact Or.inl ⟨by unfold seeB; omega, by omega, rfl⟩) dX9_see_29
    · skip
      refine lv_if_ne (tgt := 27) hx hb dX9_see_14 (by decide) (fun q => absurd rfl q) (fun _ => ?_)
      refine lv_iload_n hx hb dX9_see_17 rfl (lv_at hl 3 rfl) ?_
      refine lv_pc (pc2 := 18) rfl ?_
      refine lv_iconst (v := (-1)) hx hb dX9_see_18 (by decide) ?_
      refine lv_ldc hx hb hown (hts (.constant RX9 219 (10000000)) (List.mem_of_getElem? (i := 6) rfl)) dX9_see_19 ?_
      have zi_m1 : ((-1) : Int32).toInt = (-1) := by decide
      have zi_10000000 : (10000000 : Int32).toInt = 10000000 := by decide
      refine ty_calli (W.runS (As := [.int a3, .int (-1), .int 10000000]) (rest := []) ⟨hx, hb, hml, hown, hts⟩ (a_X9_isOutside l D t cI cL cC (hF cI cL cC gC gP gT gR mm ms mg mL mQ mZ dm ds dg dL dQ dZ om os og oL oQ oZ gB gO xk gE gV gU gN G gW gA) a3 (-1) 10000000 a3.toInt (-1) 10000000 rfl (by decide) (by decide) ) (va_cwS 3 hts gu_hX9_see_aX9_isOutside_99 rfl rfl rfl (by decide +kernel) ⟨Nat.le_of_ble_eq_true rfl, Nat.le_of_ble_eq_true rfl⟩) (tP_S hG hE) rfl rfl hl.1 rfl (lv_room (Nat.le_of_ble_eq_true rfl)) dX9_see_21 ⟨Nat.le_of_ble_eq_true rfl, Nat.le_of_ble_eq_true rfl⟩) hS (fun k h => by simp [wr0] at h) (fun r_15 H locs hp_16 hG hS o_17 => ?_)
      have hp_16 : (r_15 = 1 ∧ (a3.toInt < (-1) ∨ 10000000 < a3.toInt)) ∨ (r_15 = 0 ∧ (-1) ≤ a3.toInt ∧ a3.toInt ≤ 10000000) := hp_16
      rcases hp_16 with ⟨rfl, p_19⟩ | ⟨rfl, p_20, p_21⟩
      · skip
        refine lv_if_eq (tgt := 30) hx hb dX9_see_24 (by decide) (fun q => absurd q (by decide)) (fun _ => ?_)
        refine lv_bipush (v := (-100)) hx hb dX9_see_27 (by decide) ?_
        have zi_m100 : ((-100) : Int32).toInt = (-100) := by decide
        exact tx_iret (z := (gN)) hx hb hr hlk hG hS (by show seeR (gB.toInt = 0 ∨ (gV a1.toInt.toNat).toInt = -4) gN a1 a2 a3 ((-100) : Int32) gN; exact Or.inl ⟨by unfold seeB; omega, by omega, rfl⟩) dX9_see_29
      · skip
        refine lv_if_eq (tgt := 30) hx hb dX9_see_24 (by decide) (fun _ => ?_) (fun q => absurd (by decide) q)
        refine lv_aload_n hx hb dX9_see_30 rfl (lv_at hl 0 rfl) ?_
        refine lv_pc (pc2 := 31) rfl ?_
        refine lv_iload_n hx hb dX9_see_31 rfl (lv_at hl 1 rfl) ?_
        obtain ⟨r_22, r_24, r_26, r_28, r_30, r_32, r_34, r_36, r_38, r_40, r_42, r_44, r_46, r_48, r_50, at_52, h_23, h_25, h_27, h_29, h_31, h_33, h_35, h_37, h_39, h_41, h_43, h_45, h_47, h_49, h_51⟩ := hF_o1 hG k_a0
        refine ty_calli (W.runV (As := [.int a1]) (rest := []) ⟨hx, hb, hml, hown, hts⟩ (h_X9_lacksGauge l D t cI cL cC gC gP gT gR mm ms mg mL mQ mZ dm ds dg dL dQ dZ om os og oL oQ oZ gB gO xk gE gV gU gN G gW gA a0 a1  uq  k_a0) (cwV 1 hts gu_hX9_see_hX9_lacksGauge_212 rfl rfl rfl (by decide +kernel) ⟨Nat.le_of_ble_eq_true rfl, Nat.le_of_ble_eq_true rfl⟩) (tP_V hG hE at_52 rfl) rfl rfl hl.1 rfl (lv_room (Nat.le_of_ble_eq_true rfl)) dX9_see_32 ⟨Nat.le_of_ble_eq_true rfl, Nat.le_of_ble_eq_true rfl⟩) hS (fun k h => by simp [wr0] at h) (fun r_53 H locs hp_54 hG hS o_55 => ?_)
        have at_52 := va_at.keptC at_52 o_55 k_a0 rfl
        have hp_54 : (r_53 = 1 ∧ (gB.toInt = 0 ∨ ¬ gsQ gV a1.toInt)) ∨ (r_53 = 0 ∧ gB.toInt ≠ 0 ∧ gsQ gV a1.toInt) := hp_54
        rcases hp_54 with ⟨rfl, p_57⟩ | ⟨rfl, p_58, p_59⟩
        · skip
          refine lv_if_eq (tgt := 43) hx hb dX9_see_35 (by decide) (fun q => absurd q (by decide)) (fun _ => ?_)
          refine lv_bipush (v := (-102)) hx hb dX9_see_38 (by decide) ?_
          refine lv_goto (tgt := 53) hx hb dX9_see_40 (by decide) ?_
          have zi_m102 : ((-102) : Int32).toInt = (-102) := by decide
          exact tx_iret (z := (gN)) hx hb hr hlk hG hS (by show seeR (gB.toInt = 0 ∨ (gV a1.toInt.toNat).toInt = -4) gN a1 a2 a3 ((-102) : Int32) gN; exact Or.inr (Or.inl ⟨by unfold seeB; omega, p_57.elim Or.inl (fun q => Or.inr (gsQ.no q (by omega) (by omega))), by omega, rfl⟩)) dX9_see_53
        · skip
          refine lv_if_eq (tgt := 43) hx hb dX9_see_35 (by decide) (fun _ => ?_) (fun q => absurd (by decide) q)
          refine lv_aload_n hx hb dX9_see_43 rfl (lv_at hl 0 rfl) ?_
          refine lv_pc (pc2 := 44) rfl ?_
          refine va_get (D := D) (ci := 8) (v := .ref r_44) (C := RX9) (T := TX9) (N := 18) hx hb hts in9 hown hK (va_one at_52) 0 rfl rfl 14 (by decide) (hts (.fieldLink RX9 74 "RiverModel" "gauges" "LRiverModel$Gauges;") (List.mem_of_getElem? (i := 10) rfl)) (fun _ h9 => h9) rfl dX9_see_44 ?_
          refine lv_iload_n hx hb dX9_see_47 rfl (lv_at hl 1 rfl) ?_
          refine lv_iload_n hx hb dX9_see_48 rfl (lv_at hl 2 rfl) ?_
          refine lv_iload_n hx hb dX9_see_49 rfl (lv_at hl 3 rfl) ?_
          have hV_60 : tG D (rF cI cL cC gC gP gT gR mm ms mg mL mQ mZ gE gV gU gN) (fun q => vwM (t q)) H := tG.vw hG (vwM_vw) rfl
          obtain ⟨r_61, r_63, r_65, at_67, h_62, h_64, h_66⟩ := hF_o6 hG h_45
          refine tv_calli (t := t) (W.runV (As := [.int a1, .int a2, .int a3]) (rest := []) ⟨hx, hb, hml, hown, hts⟩ (v_X1_putSeen l D (fun q => vwM (t q)) cI cL cC gC gP gT gR mm ms mg mL mQ mZ gE gV gU gN r_44 a1 a2 a3  (vwM_inj uq) (by omega) (by omega) (by omega) (by omega) (show vwM (t r_44) = 6 by rw [h_45]; rfl)) (cwV 3 hts gu_hX9_see_vX1_putSeen_220 rfl rfl rfl (by decide +kernel) ⟨Nat.le_of_ble_eq_true rfl, Nat.le_of_ble_eq_true rfl⟩) (tP_V hV_60 hE at_67 rfl) rfl rfl hl.1 rfl (lv_room (Nat.le_of_ble_eq_true rfl)) dX9_see_50 ⟨Nat.le_of_ble_eq_true rfl, Nat.le_of_ble_eq_true rfl⟩) hS (fun q h => vwM_vN_hG6 h) (fun r_68 gN_73 H locs hp_69 hV_72 hS o_70 => ?_)
          replace hG : tG D (hF cI cL cC gC gP gT gR mm ms mg mL mQ mZ dm ds dg dL dQ dZ om os og oL oQ oZ gB gO xk gE gV gU gN_73 G gW gA) t H := tG.unvw hG hV_72 o_70 rfl (vwM_vN_b (gN := gN)) (vwM_vN_o)
          have at_52 := va_at.keptC (t := (fun q => vwM (t q))) at_52 o_70 (show vwM (t a0) = 0 by rw [k_a0]; rfl) rfl
          have at_67 := va_at.keptC (t := (fun q => vwM (t q))) at_67 o_70 (show vwM (t r_44) = 6 by rw [h_45]; rfl) rfl
          clear hV_60 hV_72
          have hp_69 : r_68 = gN (96 * a1.toInt + a2.toInt).toNat ∧ gN_73 = upd gN (96 * a1.toInt + a2.toInt).toNat a3 := hp_69
          obtain ⟨p_74, p_75⟩ := hp_69
          exact tx_iret (z := (gN_73)) hx hb hr hlk hG hS (by show seeR (gB.toInt = 0 ∨ (gV a1.toInt.toNat).toInt = -4) gN a1 a2 a3 r_68 gN_73; exact Or.inr (Or.inr ⟨by unfold seeB; omega, fun q => by have := p_59.2.2; omega, p_74, p_75⟩)) dX9_see_53

def uhX9_draftBecomesModel : List Cond := .code yX9_draftBecomesModel cX9_draftBecomesModel 3 none :: ([.fieldLink RX9 19 "RiverModel" "model" "LRiverModel$Model;", .fieldLink RX9 23 "RiverModel" "draft" "LRiverModel$Model;", .fieldLink RX9 29 "RiverModel" "isBuilt" "Z", .fieldLink RX9 33 "RiverModel" "isOtherLaid" "Z", .fieldLink RX9 67 "RiverModel" "keptMany" "I", .fieldLink RX9 53 "RiverModel" "now" "LRiverModel$Course;", .methodLink RX9 147 yX0_begin, .instanceMethod yX0_begin, .selects RX0 yX0_begin yX0_begin, .initialized RX0, .fieldLink RX9 46 "RiverModel" "startsB" "[I", .methodLink RX9 347 yX4_startOf, .instanceMethod yX4_startOf, .selects RX4 yX4_startOf yX4_startOf, .initialized RX4, .code yX0_begin cX0_begin 3 none, .fieldLink RX0 15 "RiverModel$Course" "moved" "[J", .methodLink RX0 45 yJ7_fill_d0a16, .static yJ7_fill_d0a16, .initialized RJ7, .fieldLink RX0 18 "RiverModel$Course" "openings" "[I", .methodLink RX0 51 yJ7_fill_53178, .static yJ7_fill_53178, .fieldLink RX0 22 "RiverModel$Course" "due" "[J", .fieldLink RX0 25 "RiverModel$Course" "rained" "J", .fieldLink RX0 29 "RiverModel$Course" "air" "J", .fieldLink RX0 32 "RiverModel$Course" "sea" "J", .fieldLink RX0 35 "RiverModel$Course" "hours" "I", .fieldLink RX0 9 "RiverModel$Course" "held" "[J", .methodLink RX0 39 yX4_startOf, .code yJ7_fill_d0a16 cJ7_fill_d0a16 5 none, .code yJ7_fill_53178 cJ7_fill_53178 4 none, .code yX4_startOf cX4_startOf 2 (some .int), .methodLink RX4 66 yX4_hasStore, .instanceMethod yX4_hasStore, .selects RX4 yX4_hasStore yX4_hasStore, .fieldLink RX4 15 "RiverModel$Model" "storeItems" "[I", .methodLink RX4 73 yX4_cell, .instanceMethod yX4_cell, .selects RX4 yX4_cell yX4_cell, .code yX4_hasStore cX4_hasStore 2 (some .boolean), .code yX4_cell cX4_cell 3 (some .int), .fieldLink RX4 9 "RiverModel$Model" "cells" "[I"] ++ wsX90 ++ wsX00 ++ wsX40)
set_option maxRecDepth 20000 in
theorem gu_hX9_draftBecomesModel_X0_begin_147 : GoodIn uhX9_draftBecomesModel (wsV RX9 147 RX0 yX0_begin uX0_begin) := goodIn_r _ [7, 8, 9, 10, 16, 17, 18, 19, 20, 21, 22, 23, 24, 25, 26, 27, 28, 29, 30, 13, 14, 15, 31, 32, 33, 34, 35, 36, 37, 38, 39, 40, 41, 42, 43, 62, 63, 64, 65, 66, 67, 68, 69, 70, 71, 72, 73, 74, 75] rfl (by decide +kernel)
set_option maxRecDepth 20000 in
theorem gu_hX9_draftBecomesModel_X4_startOf_347 : GoodIn uhX9_draftBecomesModel (wsV RX9 347 RX4 yX4_startOf uX4_startOf) := goodIn_r _ [12, 13, 14, 15, 33, 34, 35, 36, 15, 37, 38, 39, 40, 41, 42, 43, 70, 71, 72, 73, 74, 75] rfl (by decide +kernel)
set_option maxHeartbeats 4000000 in
set_option maxRecDepth 100000 in
theorem h_X9_draftBecomesModel (l : Launch) (D : va_G) (t0 t : Nat → Nat) (ht : t = fun q => sg (t0 q)) (cI cL cC : ClassId) (gC : Int32) (gP : Int32) (gT : Nat → Int32) (gR : Nat → Int32) (mm : Int32) (ms : Int32) (mg : Int32) (mL : Nat → Int32) (mQ : Nat → Int32) (mZ : Nat → Int32) (dm : Int32) (ds : Int32) (dg : Int32) (dL : Nat → Int32) (dQ : Nat → Int32) (dZ : Nat → Int32) (om : Int32) (os : Int32) (og : Int32) (oL : Nat → Int32) (oQ : Nat → Int32) (oZ : Nat → Int32) (gB : Int32) (gO : Int32) (xk : Int32) (gE : Int32) (gV : Nat → Int32) (gU : Nat → Int32) (gN : Nat → Int32) (G : Nat) (gW : Nat → Int32) (gA : Nat → Int32) (a0 : Nat) (uq0 : ∀ b c : Nat, t0 b = t0 c → uqK (t0 b) = true → b = c) (mg0 : 0 ≤ mg.toInt) (mg4 : mg.toInt ≤ 4) (dg0 : 0 ≤ dg.toInt) (dg4 : dg.toInt ≤ 4) (k_a0 : t0 a0 = 1) : Met l yX9_draftBecomesModel uhX9_draftBecomesModel ({ frames := 3, cells := 0, slots := 0, locals := 65 }) (tP D (hF cI cL cC gC gP gT gR mm ms mg mL mQ mZ dm ds dg dL dQ dZ om os og oL oQ oZ gB gO xk gE gV gU gN G gW gA) t0 cI cL cC [.ref a0]) (tQ D (hF cI cL cC gC gP gT gR dm ds dg dL dQ dZ mm ms mg mL mQ mZ om os og oL oQ oZ 1 0 0 gE gV gU gN G gW gA) t hBec (pV True)) 0 0 (fun q => hBec (t q) = true) := by
  refine tMs.ofW (cc := cX9_draftBecomesModel) (maxL := 3) (ret := none) (by decide) rfl (Nat.le_of_ble_eq_true rfl) ?_
  intro p e s m below meth c hx hb hr hml hown hts hlk H locs hG hK hE hS ls hl
  have hl : lv_has ls 3 [(0, .ref a0)] := hl
  have in9 : ∀ w ∈ wsX90, w ∈ uhX9_draftBecomesModel := fun w h => List.mem_cons_of_mem _ (List.mem_append_left _ (List.mem_append_left _ (List.mem_append_right _ h)))
  refine lv_aload_n hx hb dX9_draftBecomesModel_0 rfl (lv_at hl 0 rfl) ?_
  obtain ⟨r_1, r_3, r_5, r_7, r_9, r_11, r_13, r_15, r_17, r_19, r_21, r_23, r_25, r_27, r_29, at_31, h_2, h_4, h_6, h_8, h_10, h_12, h_14, h_16, h_18, h_20, h_22, h_24, h_26, h_28, h_30⟩ := hF_o1 hG k_a0
  refine va_get (D := D) (ci := 8) (v := .ref r_3) (C := RX9) (T := TX9) (N := 18) hx hb hts in9 hown hK (va_one at_31) 0 rfl rfl 1 (by decide) (hts (.fieldLink RX9 19 "RiverModel" "model" "LRiverModel$Model;") (List.mem_of_getElem? (i := 1) rfl)) (fun _ h9 => h9) rfl dX9_draftBecomesModel_1 ?_
  refine lv_astore_n (lv' := [(1, .ref r_3), (0, .ref a0)]) hx hb dX9_draftBecomesModel_4 rfl hl (by decide) rfl (fun ls hl => ?_)
  refine lv_aload_n hx hb dX9_draftBecomesModel_5 rfl (lv_at hl 1 rfl) ?_
  refine lv_aload_n hx hb dX9_draftBecomesModel_6 rfl (lv_at hl 1 rfl) ?_
  refine va_get (D := D) (ci := 8) (v := .ref r_5) (C := RX9) (T := TX9) (N := 18) hx hb hts in9 hown hK (va_one at_31) 0 rfl rfl 2 (by decide) (hts (.fieldLink RX9 23 "RiverModel" "draft" "LRiverModel$Model;") (List.mem_of_getElem? (i := 2) rfl)) (fun _ h9 => h9) rfl dX9_draftBecomesModel_7 ?_
  refine ty_put (D := D) (ci := 8) (v := .ref r_5) (ty := .object "RiverModel$Model") (C := RX9) (T := TX9) (N := 18) (F2 := (pinF (hF cI cL cC gC gP gT gR mm ms mg mL mQ mZ dm ds dg dL dQ dZ om os og oL oQ oZ gB gO xk gE gV gU gN G gW gA) 1 (.inr (8, [.ref r_1, .ref r_5, .ref r_5, .ref r_7, .int gB, .int gO, .ref r_9, .ref r_11, .ref r_13, .ref r_15, .ref r_17, .ref r_19, .ref r_21, .int xk, .ref r_23, .ref r_25, .ref r_27, .ref r_29])))) hx hb hts in9 tyX9 tyX9_ok nmX9 hown hK hG hS at_31 (by rw [k_a0]; rfl) rfl 1 (by decide) (hts (.fieldLink RX9 19 "RiverModel" "model" "LRiverModel$Model;") (List.mem_of_getElem? (i := 1) rfl)) (fun _ h9 => h9) rfl (by decide +kernel) rfl rfl (Nat.le_of_ble_eq_true rfl) (by rw [k_a0]; exact Or.inl ⟨rfl, rfl⟩) (fun hG b hb h0 => by obtain ⟨e, g1, g2⟩ := hG b h0; exact ⟨e, g1, Or.inr ⟨fun h => hb (uq0 b a0 (h.trans k_a0.symm) (by rw [h]; rfl)), g2⟩⟩) dX9_draftBecomesModel_10 (fun H locs hG hS at_32 o_33 => ?_)
  have at_32 : va_at D vwCl (a0, .inr (8, [.ref r_1, .ref r_5, .ref r_5, .ref r_7, .int gB, .int gO, .ref r_9, .ref r_11, .ref r_13, .ref r_15, .ref r_17, .ref r_19, .ref r_21, .int xk, .ref r_23, .ref r_25, .ref r_27, .ref r_29])) H := at_32
  refine lv_pc (pc2 := 13) rfl ?_
  refine lv_aload_n hx hb dX9_draftBecomesModel_13 rfl (lv_at hl 1 rfl) ?_
  refine lv_aload_n hx hb dX9_draftBecomesModel_14 rfl (lv_at hl 0 rfl) ?_
  refine ty_put (D := D) (ci := 8) (v := .ref r_3) (ty := .object "RiverModel$Model") (C := RX9) (T := TX9) (N := 18) (F2 := (pinF (hF cI cL cC gC gP gT gR mm ms mg mL mQ mZ dm ds dg dL dQ dZ om os og oL oQ oZ gB gO xk gE gV gU gN G gW gA) 1 (.inr (8, [.ref r_1, .ref r_5, .ref r_3, .ref r_7, .int gB, .int gO, .ref r_9, .ref r_11, .ref r_13, .ref r_15, .ref r_17, .ref r_19, .ref r_21, .int xk, .ref r_23, .ref r_25, .ref r_27, .ref r_29])))) hx hb hts in9 tyX9 tyX9_ok nmX9 hown hK hG hS at_32 (by rw [k_a0]; rfl) rfl 2 (by decide) (hts (.fieldLink RX9 23 "RiverModel" "draft" "LRiverModel$Model;") (List.mem_of_getElem? (i := 2) rfl)) (fun _ h9 => h9) rfl (by decide +kernel) rfl rfl (Nat.le_of_ble_eq_true rfl) (by rw [k_a0]; exact Or.inl ⟨rfl, rfl⟩) (fun hG b hb h0 => by obtain ⟨e, g1, g2⟩ := hG b h0; exact ⟨e, g1, Or.inr (g2.elim (fun q => absurd (uq0 b a0 (q.1.trans k_a0.symm) (by rw [q.1]; rfl)) hb) id)⟩) dX9_draftBecomesModel_15 (fun H locs hG hS at_34 o_35 => ?_)
  have at_34 : va_at D vwCl (a0, .inr (8, [.ref r_1, .ref r_5, .ref r_3, .ref r_7, .int gB, .int gO, .ref r_9, .ref r_11, .ref r_13, .ref r_15, .ref r_17, .ref r_19, .ref r_21, .int xk, .ref r_23, .ref r_25, .ref r_27, .ref r_29])) H := at_34
  replace hG : tG D (hF cI cL cC gC gP gT gR dm ds dg dL dQ dZ mm ms mg mL mQ mZ om os og oL oQ oZ gB gO xk gE gV gU gN G gW gA) (fun q => sg (t0 q)) H := tG.pinsg hG rfl rfl ⟨r_1, r_5, r_3, r_7, r_9, r_11, r_13, r_15, r_17, r_19, r_21, r_23, r_25, r_27, r_29, rfl, (by show sg (t0 r_1) = 2; rw [h_2]; rfl), (by show sg (t0 r_5) = 3; rw [h_6]; rfl), (by show sg (t0 r_3) = 37; rw [h_4]; rfl), (by show sg (t0 r_7) = 41; rw [h_8]; rfl), (by show sg (t0 r_9) = 4; rw [h_10]; rfl), (by show sg (t0 r_11) = 4; rw [h_12]; rfl), (by show sg (t0 r_13) = 35; rw [h_14]; rfl), (by show sg (t0 r_15) = 5; rw [h_16]; rfl), (by show sg (t0 r_17) = 5; rw [h_18]; rfl), (by show sg (t0 r_19) = 5; rw [h_20]; rfl), (by show sg (t0 r_21) = 36; rw [h_22]; rfl), (by show sg (t0 r_23) = 6; rw [h_24]; rfl), (by show sg (t0 r_25) = 7; rw [h_26]; rfl), (by show sg (t0 r_27) = 8; rw [h_28]; rfl), (by show sg (t0 r_29) = 9; rw [h_30]; rfl)⟩ sg_vw
  rw [← ht] at hG
  replace hS : tF t hBec s.heap H locs := hS.re (fun q => by rw [ht]; exact sg_hBec (t0 q))
  have uq : ∀ b c : Nat, t b = t c → uqK (t b) = true → b = c := by rw [ht]; exact sg_uq uq0
  have k_a : t a0 = 1 := by rw [ht]; show sg (t0 a0) = 1; rw [k_a0]; rfl
  have h_36 : t r_1 = 2 := by rw [ht]; show sg (t0 r_1) = 2; rw [h_2]; rfl
  have h_37 : t r_5 = 3 := by rw [ht]; show sg (t0 r_5) = 3; rw [h_6]; rfl
  have h_38 : t r_3 = 37 := by rw [ht]; show sg (t0 r_3) = 37; rw [h_4]; rfl
  have h_39 : t r_7 = 41 := by rw [ht]; show sg (t0 r_7) = 41; rw [h_8]; rfl
  have h_40 : t r_9 = 4 := by rw [ht]; show sg (t0 r_9) = 4; rw [h_10]; rfl
  have h_41 : t r_11 = 4 := by rw [ht]; show sg (t0 r_11) = 4; rw [h_12]; rfl
  have h_42 : t r_13 = 35 := by rw [ht]; show sg (t0 r_13) = 35; rw [h_14]; rfl
  have h_43 : t r_15 = 5 := by rw [ht]; show sg (t0 r_15) = 5; rw [h_16]; rfl
  have h_44 : t r_17 = 5 := by rw [ht]; show sg (t0 r_17) = 5; rw [h_18]; rfl
  have h_45 : t r_19 = 5 := by rw [ht]; show sg (t0 r_19) = 5; rw [h_20]; rfl
  have h_46 : t r_21 = 36 := by rw [ht]; show sg (t0 r_21) = 36; rw [h_22]; rfl
  have h_47 : t r_23 = 6 := by rw [ht]; show sg (t0 r_23) = 6; rw [h_24]; rfl
  have h_48 : t r_25 = 7 := by rw [ht]; show sg (t0 r_25) = 7; rw [h_26]; rfl
  have h_49 : t r_27 = 8 := by rw [ht]; show sg (t0 r_27) = 8; rw [h_28]; rfl
  have h_50 : t r_29 = 9 := by rw [ht]; show sg (t0 r_29) = 9; rw [h_30]; rfl
  replace hl : lv_has ls 3 [(0, .ref a0)] := lv_sub hl [1] rfl
  refine lv_aload_n hx hb dX9_draftBecomesModel_18 rfl (lv_at hl 0 rfl) ?_
  refine lv_iconst (v := 1) hx hb dX9_draftBecomesModel_19 (by decide) ?_
  have zi_1 : (1 : Int32).toInt = 1 := by decide
  refine ty_put (D := D) (ci := 8) (v := .int 1) (ty := .boolean) (C := RX9) (T := TX9) (N := 18) (F2 := (hF cI cL cC gC gP gT gR dm ds dg dL dQ dZ mm ms mg mL mQ mZ om os og oL oQ oZ 1 gO xk gE gV gU gN G gW gA)) hx hb hts in9 tyX9 tyX9_ok nmX9 hown hK hG hS at_34 (by rw [k_a]; rfl) rfl 4 (by decide) (hts (.fieldLink RX9 29 "RiverModel" "isBuilt" "Z") (List.mem_of_getElem? (i := 3) rfl)) (fun _ h9 => h9) rfl (by decide +kernel) (by decide) (by decide) (Nat.le_of_ble_eq_true rfl) (by rw [k_a]; exact ⟨r_1, r_5, r_3, r_7, r_9, r_11, r_13, r_15, r_17, r_19, r_21, r_23, r_25, r_27, r_29, rfl, h_36, h_37, h_38, h_39, h_40, h_41, h_42, h_43, h_44, h_45, h_46, h_47, h_48, h_49, h_50⟩) (fun hG b hb h0 => by obtain ⟨e, g1, g2⟩ := hG b h0; exact ⟨e, g1, hF_gB (fun h => hb (uq b a0 (h.trans k_a.symm) (by rw [h]; rfl))) g2⟩) dX9_draftBecomesModel_20 (fun H locs hG hS at_51 o_52 => ?_)
  have at_51 : va_at D vwCl (a0, .inr (8, [.ref r_1, .ref r_5, .ref r_3, .ref r_7, .int 1, .int gO, .ref r_9, .ref r_11, .ref r_13, .ref r_15, .ref r_17, .ref r_19, .ref r_21, .int xk, .ref r_23, .ref r_25, .ref r_27, .ref r_29])) H := at_51
  refine lv_aload_n hx hb dX9_draftBecomesModel_23 rfl (lv_at hl 0 rfl) ?_
  refine lv_iconst (v := 0) hx hb dX9_draftBecomesModel_24 (by decide) ?_
  refine lv_pc (pc2 := 25) rfl ?_
  have zi_0 : (0 : Int32).toInt = 0 := by decide
  refine ty_put (D := D) (ci := 8) (v := .int 0) (ty := .boolean) (C := RX9) (T := TX9) (N := 18) (F2 := (hF cI cL cC gC gP gT gR dm ds dg dL dQ dZ mm ms mg mL mQ mZ om os og oL oQ oZ 1 0 xk gE gV gU gN G gW gA)) hx hb hts in9 tyX9 tyX9_ok nmX9 hown hK hG hS at_51 (by rw [k_a]; rfl) rfl 5 (by decide) (hts (.fieldLink RX9 33 "RiverModel" "isOtherLaid" "Z") (List.mem_of_getElem? (i := 4) rfl)) (fun _ h9 => h9) rfl (by decide +kernel) (by decide) (by decide) (Nat.le_of_ble_eq_true rfl) (by rw [k_a]; exact ⟨r_1, r_5, r_3, r_7, r_9, r_11, r_13, r_15, r_17, r_19, r_21, r_23, r_25, r_27, r_29, rfl, h_36, h_37, h_38, h_39, h_40, h_41, h_42, h_43, h_44, h_45, h_46, h_47, h_48, h_49, h_50⟩) (fun hG b hb h0 => by obtain ⟨e, g1, g2⟩ := hG b h0; exact ⟨e, g1, hF_gO (fun h => hb (uq b a0 (h.trans k_a.symm) (by rw [h]; rfl))) g2⟩) dX9_draftBecomesModel_25 (fun H locs hG hS at_53 o_54 => ?_)
  have at_53 : va_at D vwCl (a0, .inr (8, [.ref r_1, .ref r_5, .ref r_3, .ref r_7, .int 1, .int 0, .ref r_9, .ref r_11, .ref r_13, .ref r_15, .ref r_17, .ref r_19, .ref r_21, .int xk, .ref r_23, .ref r_25, .ref r_27, .ref r_29])) H := at_53
  refine lv_aload_n hx hb dX9_draftBecomesModel_28 rfl (lv_at hl 0 rfl) ?_
  refine lv_iconst (v := 0) hx hb dX9_draftBecomesModel_29 (by decide) ?_
  refine ty_put (D := D) (ci := 8) (v := .int 0) (ty := .int) (C := RX9) (T := TX9) (N := 18) (F2 := (hF cI cL cC gC gP gT gR dm ds dg dL dQ dZ mm ms mg mL mQ mZ om os og oL oQ oZ 1 0 0 gE gV gU gN G gW gA)) hx hb hts in9 tyX9 tyX9_ok nmX9 hown hK hG hS at_53 (by rw [k_a]; rfl) rfl 13 (by decide) (hts (.fieldLink RX9 67 "RiverModel" "keptMany" "I") (List.mem_of_getElem? (i := 5) rfl)) (fun _ h9 => h9) rfl (by decide +kernel) rfl rfl (Nat.le_of_ble_eq_true rfl) (by rw [k_a]; exact ⟨r_1, r_5, r_3, r_7, r_9, r_11, r_13, r_15, r_17, r_19, r_21, r_23, r_25, r_27, r_29, rfl, h_36, h_37, h_38, h_39, h_40, h_41, h_42, h_43, h_44, h_45, h_46, h_47, h_48, h_49, h_50⟩) (fun hG b hb h0 => by obtain ⟨e, g1, g2⟩ := hG b h0; exact ⟨e, g1, hF_xk (fun h => hb (uq b a0 (h.trans k_a.symm) (by rw [h]; rfl))) g2⟩) dX9_draftBecomesModel_30 (fun H locs hG hS at_55 o_56 => ?_)
  have at_55 : va_at D vwCl (a0, .inr (8, [.ref r_1, .ref r_5, .ref r_3, .ref r_7, .int 1, .int 0, .ref r_9, .ref r_11, .ref r_13, .ref r_15, .ref r_17, .ref r_19, .ref r_21, .int 0, .ref r_23, .ref r_25, .ref r_27, .ref r_29])) H := at_55
  refine lv_aload_n hx hb dX9_draftBecomesModel_33 rfl (lv_at hl 0 rfl) ?_
  refine va_get (D := D) (ci := 8) (v := .ref r_15) (C := RX9) (T := TX9) (N := 18) hx hb hts in9 hown hK (va_one at_55) 0 rfl rfl 9 (by decide) (hts (.fieldLink RX9 53 "RiverModel" "now" "LRiverModel$Course;") (List.mem_of_getElem? (i := 6) rfl)) (fun _ h9 => h9) rfl dX9_draftBecomesModel_34 ?_
  refine lv_aload_n hx hb dX9_draftBecomesModel_37 rfl (lv_at hl 0 rfl) ?_
  refine va_get (D := D) (ci := 8) (v := .ref r_5) (C := RX9) (T := TX9) (N := 18) hx hb hts in9 hown hK (va_one at_55) 0 rfl rfl 1 (by decide) (hts (.fieldLink RX9 19 "RiverModel" "model" "LRiverModel$Model;") (List.mem_of_getElem? (i := 1) rfl)) (fun _ h9 => h9) rfl dX9_draftBecomesModel_38 ?_
  refine lv_pc (pc2 := 41) rfl ?_
  have hV_57 : tG D (gF cI cL cC gC gE G gW gA) (fun q => cwM (t q)) H := tG.vw hG (cwM_vw ⟨by omega, by omega⟩) rfl
  obtain ⟨r_58, r_60, r_62, r_64, v_66, v_67, v_68, v_69, at_71, h_59, h_61, h_63, h_65, h_70⟩ := hF_o5 hG h_43
  refine tw_callv (t := t) (W.runV (As := [.ref r_5]) (rest := []) ⟨hx, hb, hml, hown, hts⟩ (s_X0_begin l D (fun q => cwM (t q)) cI cL cC gC gE G gW gA r_15 r_5 (show cwM (t r_15) = 5 by rw [h_43]; rfl) (show cwM (t r_5) = 3 by rw [h_37]; rfl)) (cwV 1 hts gu_hX9_draftBecomesModel_X0_begin_147 rfl rfl rfl (by decide +kernel) ⟨Nat.le_of_ble_eq_true rfl, Nat.le_of_ble_eq_true rfl⟩) (tP_V hV_57 hE at_71 rfl) rfl rfl hl.1 rfl (lv_room (Nat.le_of_ble_eq_true rfl)) dX9_draftBecomesModel_41 ⟨Nat.le_of_ble_eq_true rfl, Nat.le_of_ble_eq_true rfl⟩) hS (fun q h => cwM_wrC_hBec h) (fun H locs hp_73 hV_76 hS o_74 => ?_)
  replace hG : tG D (hF cI cL cC gC gP gT gR dm ds dg dL dQ dZ mm ms mg mL mQ mZ om os og oL oQ oZ 1 0 0 gE gV gU gN G gW gA) t H := tG.unvw hG hV_76 o_74 rfl (cwM_wrC_b (G := G)) (cwM_wrC_o (by omega))
  have at_55 := va_at.keptC (t := (fun q => cwM (t q))) at_55 o_74 (show cwM (t a0) = 0 by rw [k_a]; rfl) rfl
  clear hV_57 hV_76
  refine lv_iconst (v := 0) hx hb dX9_draftBecomesModel_44 (by decide) ?_
  refine lv_istore_n (lv' := [(2, .int 0), (0, .ref a0)]) hx hb dX9_draftBecomesModel_45 rfl hl (by decide) rfl (fun ls hl => ?_)
  refine lv_pc (pc2 := 46) rfl ?_
  refine lp_gen (fun WW77 hWW77 => ?_)
  have kx77 : ∀ (yk : Int32) (H1 : Heap) (locs1 : List Loc) (ls1 : Array Slot), (0 ≤ yk.toInt) → (yk.toInt ≤ 16) → tG D (hF cI cL cC gC gP gT gR dm ds dg dL dQ dZ mm ms mg mL mQ mZ om os og oL oQ oZ 1 0 0 gE gV gU gN G gW gA) t H1 → tF t hBec s.heap H1 locs1 → lv_has ls1 3 [(2, .int yk), (0, .ref a0)] → WW77 H1 locs1 (F0 m 72 ls1 []) := by
    intro yk H locs ls v77_0 v77_1 hG hS hl
    refine (hWW77 _ _ _).mpr ?_
    exact ty_vret hx hb hr hlk hG hS True.intro dX9_draftBecomesModel_72
  have lp77 : ∀ (kk77 : Nat) (yk : Int32) (H1 : Heap) (locs1 : List Loc) (ls1 : Array Slot), 16 - yk.toInt ≤ (kk77 : Int) → (0 ≤ yk.toInt) → (yk.toInt ≤ 16) → tG D (hF cI cL cC gC gP gT gR dm ds dg dL dQ dZ mm ms mg mL mQ mZ om os og oL oQ oZ 1 0 0 gE gV gU gN G gW gA) t H1 → tF t hBec s.heap H1 locs1 → lv_has ls1 3 [(2, .int yk), (0, .ref a0)] → WW77 H1 locs1 (F0 m 46 ls1 []) := by
    intro kk77
    induction kk77 with
    | zero =>
      intro yk H locs ls hk77 v77_0 v77_1 hG hS hl
      refine (hWW77 _ _ _).mpr ?_
      refine lv_iload_n hx hb dX9_draftBecomesModel_46 rfl (lv_at hl 0 rfl) ?_
      refine lv_bipush (v := 16) hx hb dX9_draftBecomesModel_47 (by decide) ?_
      refine lv_icmp_ge (tgt := 72) hx hb dX9_draftBecomesModel_49 (by decide) (fun c_78 => ?_) (fun c_78 => ?_)
      · skip
        have c_78 : 16 ≤ yk.toInt := q_le c_78
        exact (hWW77 _ _ _).mp (kx77 yk H locs ls v77_0 v77_1 hG hS (lv_sub hl [0, 1] rfl))
      · skip
        have c_78 : yk.toInt < 16 := q_nle c_78
        exfalso; omega
    | succ kk77 ih77 =>
      intro yk H locs ls hk77 v77_0 v77_1 hG hS hl
      refine (hWW77 _ _ _).mpr ?_
      refine lv_iload_n hx hb dX9_draftBecomesModel_46 rfl (lv_at hl 0 rfl) ?_
      refine lv_pc (pc2 := 47) rfl ?_
      refine lv_bipush (v := 16) hx hb dX9_draftBecomesModel_47 (by decide) ?_
      refine lv_icmp_ge (tgt := 72) hx hb dX9_draftBecomesModel_49 (by decide) (fun c_79 => ?_) (fun c_79 => ?_)
      · skip
        have c_79 : 16 ≤ yk.toInt := q_le c_79
        exact (hWW77 _ _ _).mp (kx77 yk H locs ls v77_0 v77_1 hG hS (lv_sub hl [0, 1] rfl))
      · skip
        have c_79 : yk.toInt < 16 := q_nle c_79
        refine lv_aload_n hx hb dX9_draftBecomesModel_52 rfl (lv_at hl 1 rfl) ?_
        obtain ⟨r_80, r_82, r_84, r_86, r_88, r_90, r_92, r_94, r_96, r_98, r_100, r_102, r_104, r_106, r_108, at_110, h_81, h_83, h_85, h_87, h_89, h_91, h_93, h_95, h_97, h_99, h_101, h_103, h_105, h_107, h_109⟩ := hF_o1 hG k_a
        refine va_get (D := D) (ci := 8) (v := .ref r_92) (C := RX9) (T := TX9) (N := 18) hx hb hts in9 hown hK (va_one at_110) 0 rfl rfl 8 (by decide) (hts (.fieldLink RX9 46 "RiverModel" "startsB" "[I") (List.mem_of_getElem? (i := 11) rfl)) (fun _ h9 => h9) rfl dX9_draftBecomesModel_53 ?_
        refine lv_iload_n hx hb dX9_draftBecomesModel_56 rfl (lv_at hl 0 rfl) ?_
        refine lv_aload_n hx hb dX9_draftBecomesModel_57 rfl (lv_at hl 1 rfl) ?_
        refine va_get (D := D) (ci := 8) (v := .ref r_82) (C := RX9) (T := TX9) (N := 18) hx hb hts in9 hown hK (va_one at_110) 0 rfl rfl 1 (by decide) (hts (.fieldLink RX9 19 "RiverModel" "model" "LRiverModel$Model;") (List.mem_of_getElem? (i := 1) rfl)) (fun _ h9 => h9) rfl dX9_draftBecomesModel_58 ?_
        refine lv_iload_n hx hb dX9_draftBecomesModel_61 rfl (lv_at hl 0 rfl) ?_
        refine lv_pc (pc2 := 62) rfl ?_
        have hV_111 : tG D (gF cI cL cC gC gE G gW gA) (fun q => cwM (t q)) H := tG.vw hG (cwM_vw ⟨by omega, by omega⟩) rfl
        obtain ⟨r_112, r_114, r_116, at_118, h_113, h_115, h_117⟩ := hF_o3 hG h_83
        refine tw_calli (t := t) (W.runV (As := [.int yk]) (rest := [.int yk, .ref r_92]) ⟨hx, hb, hml, hown, hts⟩ (s_X4_startOf l D (fun q => cwM (t q)) cI cL cC gC gE G gW gA r_82 yk (show cwM (t r_82) = 3 by rw [h_83]; rfl)) (cwV 1 hts gu_hX9_draftBecomesModel_X4_startOf_347 rfl rfl rfl (by decide +kernel) ⟨Nat.le_of_ble_eq_true rfl, Nat.le_of_ble_eq_true rfl⟩) (tP_V hV_111 hE at_118 rfl) rfl rfl hl.1 rfl (lv_room (Nat.le_of_ble_eq_true rfl)) dX9_draftBecomesModel_62 ⟨Nat.le_of_ble_eq_true rfl, Nat.le_of_ble_eq_true rfl⟩) hS (fun q h => by simp [wr0] at h) (fun r_119 H locs hp_120 hV_123 hS o_121 => ?_)
        replace hG := tG.kept0 hG o_121
        have at_110 := va_at.keptC (t := (fun q => cwM (t q))) at_110 o_121 (show cwM (t a0) = 0 by rw [k_a]; rfl) rfl
        have at_118 := va_at.keptC (t := (fun q => cwM (t q))) at_118 o_121 (show cwM (t r_82) = 3 by rw [h_83]; rfl) rfl
        clear hV_111 hV_123
        obtain ⟨f_124, at_125⟩ := hF_o35 hG h_93
        have b_126 : vp_in yk 16 := (q_in (by omega) (by omega))
        refine ty_iast (F2 := (hF cI cL cC gC gP gT gR dm ds dg dL dQ dZ mm ms mg mL mQ mZ om os og oL oQ oZ 1 0 0 gE gV gU gN G gW gA)) hx hb hK hG hS 0 at_125 (by rw [h_93]; rfl) rfl b_126 (by rw [h_93]; exact ⟨_, rfl⟩) tFF dX9_draftBecomesModel_65 (fun H locs hG hS at_127 o_128 => ?_)
        have at_110 := va_at.keptK at_110 o_128 h_93 k_a rfl
        have at_118 := va_at.keptK at_118 o_128 h_93 h_83 rfl
        obtain ⟨x_129, e_130⟩ : ∃ y : Int32, y = yk + Int32.ofInt 1 := ⟨_, rfl⟩
        have i_x_129 : x_129.toInt = yk.toInt + 1 := by rw [e_130, show Int32.ofInt 1 = 1 by decide]; exact (q_add (by rw [show (1 : Int32).toInt = 1 by decide]; omega) (by rw [show (1 : Int32).toInt = 1 by decide]; omega)).trans (by rw [show (1 : Int32).toInt = 1 by decide])
        refine lv_iinc (v := x_129) (lv' := [(2, .int x_129), (0, .ref a0)]) hx hb dX9_draftBecomesModel_66 hl (k := 0) rfl e_130.symm (by decide) rfl (fun ls hl => ?_)
        refine lv_goto (tgt := 46) hx hb dX9_draftBecomesModel_69 (by decide) ?_
        exact (hWW77 _ _ _).mp (ih77 x_129 H locs ls (by omega) (by omega) (by omega) hG hS (lv_sub hl [0, 1] rfl))
  exact lp77 (16 - (0 : Int32).toInt : Int).toNat 0 H locs ls (by omega) (by omega) (by omega) hG hS (lv_sub hl [0, 1] rfl)

def uhX9_pointHolds : List Cond := .code yX9_pointHolds cX9_pointHolds 4 (some .boolean) :: ([.fieldLink RX9 23 "RiverModel" "draft" "LRiverModel$Model;", .fieldLink RX9 19 "RiverModel" "model" "LRiverModel$Model;", .methodLink RX9 316 yX4_copyFrom, .instanceMethod yX4_copyFrom, .selects RX4 yX4_copyFrom yX4_copyFrom, .initialized RX4, .fieldLink RX9 81 "RiverModel" "knobs" "LRiverModel$Knobs;", .methodLink RX9 350 yX3_lay, .instanceMethod yX3_lay, .selects RX3 yX3_lay yX3_lay, .initialized RX3, .fieldLink RX9 57 "RiverModel" "trial" "LRiverModel$Course;", .methodLink RX9 147 yX0_begin, .instanceMethod yX0_begin, .selects RX0 yX0_begin yX0_begin, .initialized RX0, .fieldLink RX9 74 "RiverModel" "gauges" "LRiverModel$Gauges;", .methodLink RX9 354 yX1_lastSeen, .instanceMethod yX1_lastSeen, .selects RX1 yX1_lastSeen yX1_lastSeen, .initialized RX1, .fieldLink RX9 39 "RiverModel" "skyA" "LRiverModel$Sky;", .methodLink RX9 357 yX6_rainIn, .instanceMethod yX6_rainIn, .selects RX6 yX6_rainIn yX6_rainIn, .initialized RX6, .methodLink RX9 360 yX6_tempIn, .instanceMethod yX6_tempIn, .selects RX6 yX6_tempIn yX6_tempIn, .methodLink RX9 363 yX0_goHour, .instanceMethod yX0_goHour, .selects RX0 yX0_goHour yX0_goHour, .methodLink RX9 367 yX1_agree, .instanceMethod yX1_agree, .selects RX1 yX1_agree yX1_agree, .code yX4_copyFrom cX4_copyFrom 2 none, .fieldLink RX4 9 "RiverModel$Model" "cells" "[I", .methodLink RX4 37 arraycopyName, .native arraycopyName, .static arraycopyName, .initialized "java/lang/System", .fieldLink RX4 15 "RiverModel$Model" "storeItems" "[I", .fieldLink RX4 18 "RiverModel$Model" "gateItems" "[I", .fieldLink RX4 21 "RiverModel$Model" "many" "I", .fieldLink RX4 25 "RiverModel$Model" "stores" "I", .fieldLink RX4 28 "RiverModel$Model" "gates" "I", .code yX3_lay cX3_lay 4 (some .boolean), .methodLink RX3 37 yX3_isSet, .instanceMethod yX3_isSet, .selects RX3 yX3_isSet yX3_isSet, .fieldLink RX3 9 "RiverModel$Knobs" "items" "[I", .methodLink RX3 63 yX4_isItemAsTold, .instanceMethod yX4_isItemAsTold, .selects RX4 yX4_isItemAsTold yX4_isItemAsTold, .fieldLink RX3 15 "RiverModel$Knobs" "numbers" "[I", .methodLink RX3 50 yX4_hasNumber, .instanceMethod yX4_hasNumber, .selects RX4 yX4_hasNumber yX4_hasNumber, .methodLink RX3 56 yX3_numberAt, .instanceMethod yX3_numberAt, .selects RX3 yX3_numberAt yX3_numberAt, .methodLink RX3 59 yX4_putCell, .instanceMethod yX4_putCell, .selects RX4 yX4_putCell yX4_putCell, .code yX3_isSet cX3_isSet 2 (some .boolean), .fieldLink RX3 24 "RiverModel$Knobs" "manys" "[I", .code yX4_isItemAsTold cX4_isItemAsTold 2 (some .boolean), .methodLink RX4 73 yX4_cell, .instanceMethod yX4_cell, .selects RX4 yX4_cell yX4_cell, .methodLink RX4 77 yX2_areNumbersAsTold, .static yX2_areNumbersAsTold, .initialized RX2, .code yX4_cell cX4_cell 3 (some .int), .code yX2_areNumbersAsTold cX2_areNumbersAsTold 4 (some .boolean), .methodLink RX2 10 yX2_isUpTo, .static yX2_isUpTo, .constant RX2 9 (1000000), .code yX2_isUpTo cX2_isUpTo 2 (some .boolean), .code yX4_hasNumber cX4_hasNumber 3 (some .boolean), .methodLink RX4 86 yX2_numbersOf, .static yX2_numbersOf, .code yX2_numbersOf cX2_numbersOf 1 (some .int), .code yX3_numberAt cX3_numberAt 4 (some .int), .initialized RX9, .static yX9_isNoKnob, .methodLink RX3 40 yX3_pointsOf, .instanceMethod yX3_pointsOf, .selects RX3 yX3_pointsOf yX3_pointsOf, .methodLink RX3 44 Lib.Math.max.name, .static Lib.Math.max.name, .initialized "java/lang/Math", .code Lib.Math.max.name Lib.Math.max.code 2 (some .int), .fieldLink RX3 18 "RiverModel$Knobs" "froms" "[I", .fieldLink RX3 21 "RiverModel$Knobs" "steps" "[I", .code yX9_isNoKnob cX9_isNoKnob 1 (some .boolean), .code yX3_pointsOf cX3_pointsOf 2 (some .int), .code yX4_putCell cX4_putCell 4 none, .static yX9_isNoItem, .static yX9_isOutside, .code yX9_isNoItem cX9_isNoItem 1 (some .boolean), .code yX9_isOutside cX9_isOutside 3 (some .boolean), .code yX0_begin cX0_begin 3 none, .fieldLink RX0 15 "RiverModel$Course" "moved" "[J", .methodLink RX0 45 yJ7_fill_d0a16, .static yJ7_fill_d0a16, .initialized RJ7, .fieldLink RX0 18 "RiverModel$Course" "openings" "[I", .methodLink RX0 51 yJ7_fill_53178, .static yJ7_fill_53178, .fieldLink RX0 22 "RiverModel$Course" "due" "[J", .fieldLink RX0 25 "RiverModel$Course" "rained" "J", .fieldLink RX0 29 "RiverModel$Course" "air" "J", .fieldLink RX0 32 "RiverModel$Course" "sea" "J", .fieldLink RX0 35 "RiverModel$Course" "hours" "I", .fieldLink RX0 9 "RiverModel$Course" "held" "[J", .methodLink RX0 39 yX4_startOf, .instanceMethod yX4_startOf, .selects RX4 yX4_startOf yX4_startOf, .code yJ7_fill_d0a16 cJ7_fill_d0a16 5 none, .code yJ7_fill_53178 cJ7_fill_53178 4 none, .code yX4_startOf cX4_startOf 2 (some .int), .methodLink RX4 66 yX4_hasStore, .instanceMethod yX4_hasStore, .selects RX4 yX4_hasStore yX4_hasStore, .code yX4_hasStore cX4_hasStore 2 (some .boolean), .code yX1_lastSeen cX1_lastSeen 3 (some .int), .fieldLink RX1 18 "RiverModel$Gauges" "seen" "[I", .methodLink RX1 67 Lib.Math.max.name, .code yX6_rainIn cX6_rainIn 2 (some .int), .fieldLink RX6 9 "RiverModel$Sky" "rains" "[I", .code yX6_tempIn cX6_tempIn 2 (some .int), .fieldLink RX6 15 "RiverModel$Sky" "temps" "[I", .code yX0_goHour cX0_goHour 7 none, .methodLink RX0 72 yX0_bringDue, .instanceMethod yX0_bringDue, .selects RX0 yX0_bringDue yX0_bringDue, .fieldLink RX0 75 "RiverModel$Model" "many" "I", .methodLink RX0 78 yX0_amountOf, .instanceMethod yX0_amountOf, .selects RX0 yX0_amountOf yX0_amountOf, .methodLink RX0 82 yX0_move, .instanceMethod yX0_move, .selects RX0 yX0_move yX0_move, .code yX0_bringDue cX0_bringDue 3 none, .code yX0_amountOf cX0_amountOf 11 (some .long), .methodLink RX0 86 yX4_cell, .static yX9_isNoStore, .methodLink RX0 110 yX4_gateOf, .instanceMethod yX4_gateOf, .selects RX4 yX4_gateOf yX4_gateOf, .methodLink RX0 113 yX0_openingOf, .instanceMethod yX0_openingOf, .selects RX0 yX0_openingOf yX0_openingOf, .methodLink RX0 107 Lib.MathLoose.min_long.x, .static Lib.MathLoose.min_long.x, .code Lib.MathLoose.min_long.x Lib.MathLoose.min_long.code 4 (some .long), .methodLink RX0 94 yX0_leakOf, .static yX0_leakOf, .constantLong RX0 117 (100), .methodLink RX0 98 yX4_capacityOf, .instanceMethod yX4_capacityOf, .selects RX4 yX4_capacityOf yX4_capacityOf, .methodLink RX0 101 Lib.MathLoose.max_long.x, .static Lib.MathLoose.max_long.x, .code Lib.MathLoose.max_long.x Lib.MathLoose.max_long.code 4 (some .long), .constantLong RX0 119 (10), .code yX9_isNoStore cX9_isNoStore 1 (some .boolean), .code yX4_gateOf cX4_gateOf 3 (some .int), .code yX0_openingOf cX0_openingOf 2 (some .long), .static yX9_isNoGate, .code yX9_isNoGate cX9_isNoGate 1 (some .boolean), .code yX0_leakOf cX0_leakOf 8 (some .long), .code yX4_capacityOf cX4_capacityOf 2 (some .int), .code yX0_move cX0_move 8 none, .methodLink RX0 124 yX0_send, .instanceMethod yX0_send, .selects RX0 yX0_send yX0_send, .code yX0_send cX0_send 5 none, .code yX1_agree cX1_agree 5 (some .boolean), .methodLink RX1 57 yX1_reading, .instanceMethod yX1_reading, .selects RX1 yX1_reading yX1_reading, .methodLink RX1 61 Lib.MathLoose.abs_long.x, .static Lib.MathLoose.abs_long.x, .code Lib.MathLoose.abs_long.x Lib.MathLoose.abs_long.code 2 (some .long), .fieldLink RX1 21 "RiverModel$Gauges" "mayBeOff" "I", .code yX1_reading cX1_reading 4 (some .long), .methodLink RX1 35 yX1_isSet, .instanceMethod yX1_isSet, .selects RX1 yX1_isSet yX1_isSet, .fieldLink RX1 15 "RiverModel$Gauges" "places" "[I", .fieldLink RX1 9 "RiverModel$Gauges" "whats" "[I", .fieldLink RX1 50 "RiverModel$Course" "held" "[J", .fieldLink RX1 41 "RiverModel$Course" "moved" "[J", .code yX1_isSet cX1_isSet 2 (some .boolean)] ++ wsX90 ++ wsX40 ++ wsX30 ++ wsX00 ++ wsX10 ++ wsX60)
set_option maxRecDepth 20000 in
theorem gu_hX9_pointHolds_c2X4_copyFrom_316 : GoodIn uhX9_pointHolds (wsV RX9 316 RX4 yX4_copyFrom uc2X4_copyFrom) := goodIn_r _ [3, 4, 5, 6, 36, 37, 38, 39, 40, 41, 42, 43, 44, 45, 46, 215, 216, 217, 218, 219, 220] rfl (by decide +kernel)
set_option maxRecDepth 20000 in
theorem gu_hX9_pointHolds_vX3_lay_350 : GoodIn uhX9_pointHolds (wsV RX9 350 RX3 yX3_lay uvX3_lay) := goodIn_r _ [8, 9, 10, 11, 47, 48, 49, 50, 11, 51, 52, 53, 54, 6, 55, 56, 57, 58, 59, 60, 61, 62, 63, 64, 65, 66, 67, 68, 69, 70, 71, 72, 73, 74, 37, 75, 76, 77, 78, 79, 80, 81, 82, 83, 84, 85, 86, 87, 88, 89, 90, 91, 92, 93, 94, 95, 96, 97, 98, 99, 100, 101, 102, 221, 222, 223, 224, 225, 215, 216, 217, 218, 219, 220] rfl (by decide +kernel)
set_option maxRecDepth 20000 in
theorem gu_hX9_pointHolds_X0_begin_147 : GoodIn uhX9_pointHolds (wsV RX9 147 RX0 yX0_begin uX0_begin) := goodIn_r _ [13, 14, 15, 16, 103, 104, 105, 106, 107, 108, 109, 110, 111, 112, 113, 114, 115, 116, 117, 118, 119, 6, 120, 121, 122, 123, 124, 125, 42, 68, 69, 70, 126, 74, 37, 226, 227, 228, 229, 230, 231, 232, 233, 215, 216, 217, 218, 219, 220] rfl (by decide +kernel)
set_option maxRecDepth 20000 in
theorem gu_hX9_pointHolds_X1_lastSeen_354 : GoodIn uhX9_pointHolds (wsV RX9 354 RX1 yX1_lastSeen uX1_lastSeen) := goodIn_r _ [18, 19, 20, 21, 127, 128, 129, 91, 92, 93, 234, 235, 236, 237] rfl (by decide +kernel)
set_option maxRecDepth 20000 in
theorem gu_hX9_pointHolds_X6_rainIn_357 : GoodIn uhX9_pointHolds (wsV RX9 357 RX6 yX6_rainIn uX6_rainIn) := goodIn_r _ [23, 24, 25, 26, 130, 85, 100, 131, 102, 238, 239] rfl (by decide +kernel)
set_option maxRecDepth 20000 in
theorem gu_hX9_pointHolds_X6_tempIn_360 : GoodIn uhX9_pointHolds (wsV RX9 360 RX6 yX6_tempIn uX6_tempIn) := goodIn_r _ [27, 28, 29, 26, 132, 85, 100, 133, 102, 238, 239] rfl (by decide +kernel)
set_option maxRecDepth 20000 in
theorem gu_hX9_pointHolds_X0_goHour_363 : GoodIn uhX9_pointHolds (wsV RX9 363 RX0 yX0_goHour uX0_goHour) := goodIn_r _ [30, 31, 32, 16, 134, 135, 136, 137, 16, 115, 138, 139, 140, 141, 104, 142, 143, 144, 145, 116, 111, 146, 147, 69, 70, 6, 85, 148, 149, 150, 151, 152, 153, 154, 155, 156, 92, 157, 158, 159, 160, 161, 162, 163, 164, 165, 166, 167, 74, 37, 168, 169, 46, 43, 170, 171, 108, 172, 173, 174, 123, 124, 125, 42, 68, 126, 175, 112, 176, 177, 178, 114, 113, 179, 100, 102, 226, 227, 228, 229, 230, 231, 232, 233, 215, 216, 217, 218, 219, 220] rfl (by decide +kernel)
set_option maxRecDepth 20000 in
theorem gu_hX9_pointHolds_X1_agree_367 : GoodIn uhX9_pointHolds (wsV RX9 367 RX1 yX1_agree uX1_agree) := goodIn_r _ [33, 34, 35, 21, 180, 128, 181, 182, 183, 21, 184, 185, 92, 186, 187, 188, 189, 190, 191, 192, 193, 85, 148, 194, 99, 195, 196, 168, 101, 234, 235, 236, 237, 226, 227, 228, 229, 230, 231, 232, 233] rfl (by decide +kernel)
set_option maxHeartbeats 4000000 in
set_option maxRecDepth 100000 in
theorem h_X9_pointHolds (l : Launch) (D : va_G) (t : Nat → Nat) (cI cL cC : ClassId) (gC : Int32) (gP : Int32) (gT : Nat → Int32) (gR : Nat → Int32) (mm : Int32) (ms : Int32) (mg : Int32) (mL : Nat → Int32) (mQ : Nat → Int32) (mZ : Nat → Int32) (dm : Int32) (ds : Int32) (dg : Int32) (dL : Nat → Int32) (dQ : Nat → Int32) (dZ : Nat → Int32) (om : Int32) (os : Int32) (og : Int32) (oL : Nat → Int32) (oQ : Nat → Int32) (oZ : Nat → Int32) (gB : Int32) (gO : Int32) (xk : Int32) (gE : Int32) (gV : Nat → Int32) (gU : Nat → Int32) (gN : Nat → Int32) (G : Nat) (gW : Nat → Int32) (gA : Nat → Int32) (a0 : Nat) (a1 : Int32) (uq : ∀ b c : Nat, t b = t c → uqK (t b) = true → b = c) (hC0 : 0 ≤ gC.toInt) (hC4 : gC.toInt ≤ 400) (hP0 : 0 ≤ gP.toInt) (hP4 : gP.toInt ≤ 400) (hTg : gBd 400 0 255 gT) (mg0 : 0 ≤ mg.toInt) (mg4 : mg.toInt ≤ 4) (dg0 : 0 ≤ dg.toInt) (dg4 : dg.toInt ≤ 4) (og0 : 0 ≤ og.toInt) (og4 : og.toInt ≤ 4) (xk0 : 0 ≤ xk.toInt) (xk3 : xk.toInt ≤ 3) (hGb : G ≤ 190000000) (k_a0 : t a0 = 1) : tMx (Z := (Int32) × (Int32) × (Int32) × (Nat → Int32) × (Nat → Int32) × (Nat → Int32) × (Nat)) l yX9_pointHolds uhX9_pointHolds 4 99 D (hF cI cL cC gC gP gT gR mm ms mg mL mQ mZ dm ds dg dL dQ dZ om os og oL oQ oZ gB gO xk gE gV gU gN G gW gA) (fun z => (hF cI cL cC gC gP gT gR mm ms mg mL mQ mZ z.1 z.2.1 z.2.2.1 z.2.2.2.1 z.2.2.2.2.1 z.2.2.2.2.2.1 om os og oL oQ oZ gB gO xk gE gV gU gN z.2.2.2.2.2.2 gW gA)) t cI cL cC [.ref a0, .int a1] hPH (xI (fun r (z : (Int32) × (Int32) × (Int32) × (Nat → Int32) × (Nat → Int32) × (Nat → Int32) × (Nat)) => (r = 1 ∧ drK mL mQ mm ms mg z.2.2.2.1 z.2.2.2.2.1 z.1 z.2.1 z.2.2.1 ∧ (z.2.2.2.2.2.2 : Int) ≤ (G : Int) + 96 ∧ 0 ≤ z.2.2.1.toInt ∧ z.2.2.1.toInt ≤ 4) ∨ (r = 0 ∧ drK mL mQ mm ms mg z.2.2.2.1 z.2.2.2.2.1 z.1 z.2.1 z.2.2.1 ∧ (z.2.2.2.2.2.2 : Int) ≤ (G : Int) + 96 ∧ 0 ≤ z.2.2.1.toInt ∧ z.2.2.1.toInt ≤ 4))) := by
  refine tMx.ofW (cc := cX9_pointHolds) (maxL := 4) (ret := (some .boolean)) (by decide) rfl (Nat.le_of_ble_eq_true rfl) ?_
  intro p e s m below meth c hx hb hr hml hown hts hlk H locs hG hK hE hS ls hl
  have hl : lv_has ls 4 [(0, .ref a0), (1, .int a1)] := hl
  have in9 : ∀ w ∈ wsX90, w ∈ uhX9_pointHolds := fun w h => List.mem_cons_of_mem _ (List.mem_append_left _ (List.mem_append_left _ (List.mem_append_left _ (List.mem_append_left _ (List.mem_append_left _ (List.mem_append_right _ h))))))
  refine lv_aload_n hx hb dX9_pointHolds_0 rfl (lv_at hl 0 rfl) ?_
  obtain ⟨r_1, r_3, r_5, r_7, r_9, r_11, r_13, r_15, r_17, r_19, r_21, r_23, r_25, r_27, r_29, at_31, h_2, h_4, h_6, h_8, h_10, h_12, h_14, h_16, h_18, h_20, h_22, h_24, h_26, h_28, h_30⟩ := hF_o1 hG k_a0
  refine va_get (D := D) (ci := 8) (v := .ref r_5) (C := RX9) (T := TX9) (N := 18) hx hb hts in9 hown hK (va_one at_31) 0 rfl rfl 2 (by decide) (hts (.fieldLink RX9 23 "RiverModel" "draft" "LRiverModel$Model;") (List.mem_of_getElem? (i := 1) rfl)) (fun _ h9 => h9) rfl dX9_pointHolds_1 ?_
  refine lv_aload_n hx hb dX9_pointHolds_4 rfl (lv_at hl 0 rfl) ?_
  refine va_get (D := D) (ci := 8) (v := .ref r_3) (C := RX9) (T := TX9) (N := 18) hx hb hts in9 hown hK (va_one at_31) 0 rfl rfl 1 (by decide) (hts (.fieldLink RX9 19 "RiverModel" "model" "LRiverModel$Model;") (List.mem_of_getElem? (i := 2) rfl)) (fun _ h9 => h9) rfl dX9_pointHolds_5 ?_
  have hV_32 : tG D (c2F cI cL cC dm ds dg dL dQ dZ mm ms mg mL mQ mZ) (fun q => vcDM (t q)) H := tG.vw hG (vcDM_vw) rfl
  obtain ⟨r_33, r_35, r_37, at_39, h_34, h_36, h_38⟩ := hF_o37 hG h_6
  refine tv_callv (t := t) (W.runV (As := [.ref r_3]) (rest := []) ⟨hx, hb, hml, hown, hts⟩ (c2_X4_copyFrom l D (fun q => vcDM (t q)) cI cL cC dm ds dg dL dQ dZ mm ms mg mL mQ mZ r_5 r_3  (vcDM_inj uq)  (show vcDM (t r_5) = 3 by rw [h_6]; rfl) (show vcDM (t r_3) = 37 by rw [h_4]; rfl)) (cwV 1 hts gu_hX9_pointHolds_c2X4_copyFrom_316 rfl rfl rfl (by decide +kernel) ⟨Nat.le_of_ble_eq_true rfl, Nat.le_of_ble_eq_true rfl⟩) (tP_V hV_32 hE at_39 rfl) rfl rfl hl.1 rfl (lv_room (Nat.le_of_ble_eq_true rfl)) dX9_pointHolds_8 ⟨Nat.le_of_ble_eq_true rfl, Nat.le_of_ble_eq_true rfl⟩) hS (fun q h => vcDM_c2w_hPH h) (fun zz_43 H locs hp_41 hV_44 hS o_42 => ?_)
  obtain ⟨um_45, us_46, ug_47, uL_48, uQ_49, uZ_50⟩ := zz_43
  replace hG : tG D (hF cI cL cC gC gP gT gR mm ms mg mL mQ mZ um_45 us_46 ug_47 uL_48 uQ_49 uZ_50 om os og oL oQ oZ gB gO xk gE gV gU gN G gW gA) t H := tG.unvw hG hV_44 o_42 rfl (vcDM_c2w_b (dm := dm) (ds := ds) (dg := dg) (dL := dL) (dQ := dQ) (dZ := dZ)) (vcDM_c2w_o)
  have at_31 := va_at.keptC (t := (fun q => vcDM (t q))) at_31 o_42 (show vcDM (t a0) = 0 by rw [k_a0]; rfl) rfl
  clear hV_32 hV_44
  have hp_41 : (∀ j : Nat, j < 240 → uL_48 j = mL j) ∧ (∀ j : Nat, j < 16 → uQ_49 j = mQ j) ∧ (∀ j : Nat, j < 4 → uZ_50 j = mZ j) ∧ um_45.toInt = mm.toInt ∧ us_46.toInt = ms.toInt ∧ ug_47.toInt = mg.toInt := hp_41
  obtain ⟨p_51, p_52, p_53, p_54, p_55, p_56⟩ := hp_41
  refine lv_aload_n hx hb dX9_pointHolds_11 rfl (lv_at hl 0 rfl) ?_
  refine va_get (D := D) (ci := 8) (v := .ref r_25) (C := RX9) (T := TX9) (N := 18) hx hb hts in9 hown hK (va_one at_31) 0 rfl rfl 15 (by decide) (hts (.fieldLink RX9 81 "RiverModel" "knobs" "LRiverModel$Knobs;") (List.mem_of_getElem? (i := 7) rfl)) (fun _ h9 => h9) rfl dX9_pointHolds_12 ?_
  refine lv_pc (pc2 := 15) rfl ?_
  refine lv_iload_n hx hb dX9_pointHolds_15 rfl (lv_at hl 1 rfl) ?_
  refine lv_aload_n hx hb dX9_pointHolds_16 rfl (lv_at hl 0 rfl) ?_
  refine va_get (D := D) (ci := 8) (v := .ref r_5) (C := RX9) (T := TX9) (N := 18) hx hb hts in9 hown hK (va_one at_31) 0 rfl rfl 2 (by decide) (hts (.fieldLink RX9 23 "RiverModel" "draft" "LRiverModel$Model;") (List.mem_of_getElem? (i := 1) rfl)) (fun _ h9 => h9) rfl dX9_pointHolds_17 ?_
  have hV_57 : tG D (rF cI cL cC gC gP gT gR um_45 us_46 ug_47 uL_48 uQ_49 uZ_50 gE gV gU gN) (fun q => vwD (t q)) H := tG.vw hG (vwD_vw) rfl
  obtain ⟨r_58, r_60, r_62, r_64, r_66, at_68, h_59, h_61, h_63, h_65, h_67⟩ := hF_o7 hG h_26
  refine tv_calli (t := t) (W.runV (As := [.int a1, .ref r_5]) (rest := []) ⟨hx, hb, hml, hown, hts⟩ (v_X3_lay l D (fun q => vwD (t q)) cI cL cC gC gP gT gR um_45 us_46 ug_47 uL_48 uQ_49 uZ_50 gE gV gU gN r_25 a1 r_5  (vwD_inj uq)  (show vwD (t r_25) = 7 by rw [h_26]; rfl) (show vwD (t r_5) = 3 by rw [h_6]; rfl)) (cwV 2 hts gu_hX9_pointHolds_vX3_lay_350 rfl rfl rfl (by decide +kernel) ⟨Nat.le_of_ble_eq_true rfl, Nat.le_of_ble_eq_true rfl⟩) (tP_V hV_57 hE at_68 rfl) rfl rfl hl.1 rfl (lv_room (Nat.le_of_ble_eq_true rfl)) dX9_pointHolds_20 ⟨Nat.le_of_ble_eq_true rfl, Nat.le_of_ble_eq_true rfl⟩) hS (fun q h => vwD_vL_hPH h) (fun r_69 gL_74 H locs hp_70 hV_73 hS o_71 => ?_)
  replace hG : tG D (hF cI cL cC gC gP gT gR mm ms mg mL mQ mZ um_45 us_46 ug_47 gL_74 uQ_49 uZ_50 om os og oL oQ oZ gB gO xk gE gV gU gN G gW gA) t H := tG.unvw hG hV_73 o_71 rfl (vwD_vL_b (dL := uL_48)) (vwD_vL_o)
  have at_31 := va_at.keptC (t := (fun q => vwD (t q))) at_31 o_71 (show vwD (t a0) = 0 by rw [k_a0]; rfl) rfl
  have at_68 := va_at.keptC (t := (fun q => vwD (t q))) at_68 o_71 (show vwD (t r_25) = 7 by rw [h_26]; rfl) rfl
  clear hV_57 hV_73
  have hp_70 : (r_69 = 1 ∧ smK uL_48 gL_74) ∨ (r_69 = 0 ∧ smK uL_48 gL_74) := hp_70
  rcases hp_70 with ⟨rfl, p_75⟩ | ⟨rfl, p_76⟩
  · skip
    refine lv_if_ne (tgt := 28) hx hb dX9_pointHolds_23 (by decide) (fun _ => ?_) (fun q => absurd q (by decide))
    refine lv_aload_n hx hb dX9_pointHolds_28 rfl (lv_at hl 0 rfl) ?_
    refine va_get (D := D) (ci := 8) (v := .ref r_17) (C := RX9) (T := TX9) (N := 18) hx hb hts in9 hown hK (va_one at_31) 0 rfl rfl 10 (by decide) (hts (.fieldLink RX9 57 "RiverModel" "trial" "LRiverModel$Course;") (List.mem_of_getElem? (i := 12) rfl)) (fun _ h9 => h9) rfl dX9_pointHolds_29 ?_
    refine lv_aload_n hx hb dX9_pointHolds_32 rfl (lv_at hl 0 rfl) ?_
    refine lv_pc (pc2 := 33) rfl ?_
    refine va_get (D := D) (ci := 8) (v := .ref r_5) (C := RX9) (T := TX9) (N := 18) hx hb hts in9 hown hK (va_one at_31) 0 rfl rfl 2 (by decide) (hts (.fieldLink RX9 23 "RiverModel" "draft" "LRiverModel$Model;") (List.mem_of_getElem? (i := 1) rfl)) (fun _ h9 => h9) rfl dX9_pointHolds_33 ?_
    have hV_77 : tG D (gF cI cL cC gC gE G gW gA) (fun q => cwD (t q)) H := tG.vw hG (cwD_vw ⟨by omega, by omega⟩) rfl
    obtain ⟨r_78, r_80, r_82, r_84, v_86, v_87, v_88, v_89, at_91, h_79, h_81, h_83, h_85, h_90⟩ := hF_o5 hG h_18
    refine tw_callv (t := t) (W.runV (As := [.ref r_5]) (rest := []) ⟨hx, hb, hml, hown, hts⟩ (s_X0_begin l D (fun q => cwD (t q)) cI cL cC gC gE G gW gA r_17 r_5 (show cwD (t r_17) = 5 by rw [h_18]; rfl) (show cwD (t r_5) = 3 by rw [h_6]; rfl)) (cwV 1 hts gu_hX9_pointHolds_X0_begin_147 rfl rfl rfl (by decide +kernel) ⟨Nat.le_of_ble_eq_true rfl, Nat.le_of_ble_eq_true rfl⟩) (tP_V hV_77 hE at_91 rfl) rfl rfl hl.1 rfl (lv_room (Nat.le_of_ble_eq_true rfl)) dX9_pointHolds_36 ⟨Nat.le_of_ble_eq_true rfl, Nat.le_of_ble_eq_true rfl⟩) hS (fun q h => cwD_wrC_hPH h) (fun H locs hp_93 hV_96 hS o_94 => ?_)
    replace hG : tG D (hF cI cL cC gC gP gT gR mm ms mg mL mQ mZ um_45 us_46 ug_47 gL_74 uQ_49 uZ_50 om os og oL oQ oZ gB gO xk gE gV gU gN G gW gA) t H := tG.unvw hG hV_96 o_94 rfl (cwD_wrC_b (G := G)) (cwD_wrC_o (by omega))
    have at_31 := va_at.keptC (t := (fun q => cwD (t q))) at_31 o_94 (show cwD (t a0) = 0 by rw [k_a0]; rfl) rfl
    have at_68 := va_at.keptC (t := (fun q => cwD (t q))) at_68 o_94 (show cwD (t r_25) = 7 by rw [h_26]; rfl) rfl
    clear hV_77 hV_96
    refine lv_aload_n hx hb dX9_pointHolds_39 rfl (lv_at hl 0 rfl) ?_
    refine va_get (D := D) (ci := 8) (v := .ref r_23) (C := RX9) (T := TX9) (N := 18) hx hb hts in9 hown hK (va_one at_31) 0 rfl rfl 14 (by decide) (hts (.fieldLink RX9 74 "RiverModel" "gauges" "LRiverModel$Gauges;") (List.mem_of_getElem? (i := 17) rfl)) (fun _ h9 => h9) rfl dX9_pointHolds_40 ?_
    have hV_97 : tG D (gF cI cL cC gC gE G gW gA) (fun q => cwM (t q)) H := tG.vw hG (cwM_vw ⟨by omega, by omega⟩) rfl
    obtain ⟨r_98, r_100, r_102, at_104, h_99, h_101, h_103⟩ := hF_o6 hG h_24
    refine tw_calli (t := t) (W.runV (As := []) (rest := []) ⟨hx, hb, hml, hown, hts⟩ (s_X1_lastSeen l D (fun q => cwM (t q)) cI cL cC gC gE G gW gA r_23 (show cwM (t r_23) = 6 by rw [h_24]; rfl)) (cwV 0 hts gu_hX9_pointHolds_X1_lastSeen_354 rfl rfl rfl (by decide +kernel) ⟨Nat.le_of_ble_eq_true rfl, Nat.le_of_ble_eq_true rfl⟩) (tP_V hV_97 hE at_104 rfl) rfl rfl hl.1 rfl (lv_room (Nat.le_of_ble_eq_true rfl)) dX9_pointHolds_43 ⟨Nat.le_of_ble_eq_true rfl, Nat.le_of_ble_eq_true rfl⟩) hS (fun q h => by simp [wr0] at h) (fun r_105 H locs hp_106 hV_109 hS o_107 => ?_)
    replace hG := tG.kept0 hG o_107
    have at_31 := va_at.keptC (t := (fun q => cwM (t q))) at_31 o_107 (show cwM (t a0) = 0 by rw [k_a0]; rfl) rfl
    have at_68 := va_at.keptC (t := (fun q => cwM (t q))) at_68 o_107 (show cwM (t r_25) = 7 by rw [h_26]; rfl) rfl
    have at_104 := va_at.keptC (t := (fun q => cwM (t q))) at_104 o_107 (show cwM (t r_23) = 6 by rw [h_24]; rfl) rfl
    clear hV_97 hV_109
    have hp_106 := hp_106
    refine lv_istore_n (lv' := [(2, .int r_105), (0, .ref a0), (1, .int a1)]) hx hb dX9_pointHolds_46 rfl hl (by decide) rfl (fun ls hl => ?_)
    refine lv_iconst (v := 0) hx hb dX9_pointHolds_47 (by decide) ?_
    refine lv_istore_n (lv' := [(3, .int 0), (2, .int r_105), (0, .ref a0), (1, .int a1)]) hx hb dX9_pointHolds_48 rfl hl (by decide) rfl (fun ls hl => ?_)
    refine lv_pc (pc2 := 49) rfl ?_
    refine lp_gen (fun WW110 hWW110 => ?_)
    have kx110 : ∀ (yh : Int32) (g1 : Nat) (H1 : Heap) (locs1 : List Loc) (ls1 : Array Slot), (0 ≤ yh.toInt) → (yh.toInt ≤ 96) → ((g1 : Int) + (96 - yh.toInt) ≤ (G : Int) + 96) → tG D (hF cI cL cC gC gP gT gR mm ms mg mL mQ mZ um_45 us_46 ug_47 gL_74 uQ_49 uZ_50 om os og oL oQ oZ gB gO xk gE gV gU gN g1 gW gA) t H1 → tF t hPH s.heap H1 locs1 → lv_has ls1 4 [(3, .int yh), (2, .int r_105), (0, .ref a0), (1, .int a1)] → WW110 H1 locs1 (F0 m 104 ls1 []) := by
      intro yh g1 H locs ls v110_0 v110_1 v110_2 hG hS hl
      refine (hWW110 _ _ _).mpr ?_
      refine lv_pc (pc2 := 104) rfl ?_
      refine lv_iconst (v := 1) hx hb dX9_pointHolds_104 (by decide) ?_
      have zi_1 : (1 : Int32).toInt = 1 := by decide
      exact tx_zret (z := (um_45, us_46, ug_47, gL_74, uQ_49, uZ_50, g1)) hx hb hr hlk rfl hG hS (Or.inl ⟨rfl, (by show drK mL mQ mm ms mg gL_74 uQ_49 um_45 us_46 ug_47; exact ⟨smK.tr (smK.cp p_51) p_75, p_52, by omega, by omega, by omega⟩), (by show (g1 : Int) ≤ (G : Int) + 96; omega), (by show 0 ≤ ug_47.toInt; omega), (by show ug_47.toInt ≤ 4; omega)⟩) dX9_pointHolds_105
    have lp110 : ∀ (kk110 : Nat) (yh : Int32) (g1 : Nat) (H1 : Heap) (locs1 : List Loc) (ls1 : Array Slot), 96 - yh.toInt ≤ (kk110 : Int) → (0 ≤ yh.toInt) → (yh.toInt ≤ 96) → ((g1 : Int) + (96 - yh.toInt) ≤ (G : Int) + 96) → tG D (hF cI cL cC gC gP gT gR mm ms mg mL mQ mZ um_45 us_46 ug_47 gL_74 uQ_49 uZ_50 om os og oL oQ oZ gB gO xk gE gV gU gN g1 gW gA) t H1 → tF t hPH s.heap H1 locs1 → lv_has ls1 4 [(3, .int yh), (2, .int r_105), (0, .ref a0), (1, .int a1)] → WW110 H1 locs1 (F0 m 49 ls1 []) := by
      intro kk110
      induction kk110 with
      | zero =>
        intro yh g1 H locs ls hk110 v110_0 v110_1 v110_2 hG hS hl
        refine (hWW110 _ _ _).mpr ?_
        refine lv_iload_n hx hb dX9_pointHolds_49 rfl (lv_at hl 0 rfl) ?_
        refine lv_iload_n hx hb dX9_pointHolds_50 rfl (lv_at hl 1 rfl) ?_
        refine lv_icmp_gt (tgt := 104) hx hb dX9_pointHolds_51 (by decide) (fun c_111 => ?_) (fun c_111 => ?_)
        · skip
          have c_111 : r_105.toInt < yh.toInt := q_lt c_111
          exact (hWW110 _ _ _).mp (kx110 yh g1 H locs ls v110_0 v110_1 v110_2 hG hS (lv_sub hl [0, 1, 2, 3] rfl))
        · skip
          have c_111 : yh.toInt ≤ r_105.toInt := q_nlt c_111
          exfalso; omega
      | succ kk110 ih110 =>
        intro yh g1 H locs ls hk110 v110_0 v110_1 v110_2 hG hS hl
        refine (hWW110 _ _ _).mpr ?_
        refine lv_iload_n hx hb dX9_pointHolds_49 rfl (lv_at hl 0 rfl) ?_
        refine lv_iload_n hx hb dX9_pointHolds_50 rfl (lv_at hl 1 rfl) ?_
        refine lv_icmp_gt (tgt := 104) hx hb dX9_pointHolds_51 (by decide) (fun c_112 => ?_) (fun c_112 => ?_)
        · skip
          have c_112 : r_105.toInt < yh.toInt := q_lt c_112
          exact (hWW110 _ _ _).mp (kx110 yh g1 H locs ls v110_0 v110_1 v110_2 hG hS (lv_sub hl [0, 1, 2, 3] rfl))
        · skip
          have c_112 : yh.toInt ≤ r_105.toInt := q_nlt c_112
          refine lv_pc (pc2 := 54) rfl ?_
          refine lv_aload_n hx hb dX9_pointHolds_54 rfl (lv_at hl 2 rfl) ?_
          obtain ⟨r_113, r_115, r_117, r_119, r_121, r_123, r_125, r_127, r_129, r_131, r_133, r_135, r_137, r_139, r_141, at_143, h_114, h_116, h_118, h_120, h_122, h_124, h_126, h_128, h_130, h_132, h_134, h_136, h_138, h_140, h_142⟩ := hF_o1 hG k_a0
          refine va_get (D := D) (ci := 8) (v := .ref r_129) (C := RX9) (T := TX9) (N := 18) hx hb hts in9 hown hK (va_one at_143) 0 rfl rfl 10 (by decide) (hts (.fieldLink RX9 57 "RiverModel" "trial" "LRiverModel$Course;") (List.mem_of_getElem? (i := 12) rfl)) (fun _ h9 => h9) rfl dX9_pointHolds_55 ?_
          refine lv_aload_n hx hb dX9_pointHolds_58 rfl (lv_at hl 2 rfl) ?_
          refine va_get (D := D) (ci := 8) (v := .ref r_117) (C := RX9) (T := TX9) (N := 18) hx hb hts in9 hown hK (va_one at_143) 0 rfl rfl 2 (by decide) (hts (.fieldLink RX9 23 "RiverModel" "draft" "LRiverModel$Model;") (List.mem_of_getElem? (i := 1) rfl)) (fun _ h9 => h9) rfl dX9_pointHolds_59 ?_
          refine lv_aload_n hx hb dX9_pointHolds_62 rfl (lv_at hl 2 rfl) ?_
          refine va_get (D := D) (ci := 8) (v := .ref r_121) (C := RX9) (T := TX9) (N := 18) hx hb hts in9 hown hK (va_one at_143) 0 rfl rfl 6 (by decide) (hts (.fieldLink RX9 39 "RiverModel" "skyA" "LRiverModel$Sky;") (List.mem_of_getElem? (i := 22) rfl)) (fun _ h9 => h9) rfl dX9_pointHolds_63 ?_
          refine lv_iload_n hx hb dX9_pointHolds_66 rfl (lv_at hl 0 rfl) ?_
          have hV_144 : tG D (gF cI cL cC gC gE g1 gW gA) (fun q => cwM (t q)) H := tG.vw hG (cwM_vw ⟨by omega, by omega⟩) rfl
          obtain ⟨r_145, r_147, at_149, h_146, h_148⟩ := hF_o4 hG h_122
          refine tw_calli (t := t) (W.runV (As := [.int yh]) (rest := [.ref r_117, .ref r_129]) ⟨hx, hb, hml, hown, hts⟩ (s_X6_rainIn l D (fun q => cwM (t q)) cI cL cC gC gE g1 gW gA r_121 yh (show cwM (t r_121) = 4 by rw [h_122]; rfl)) (cwV 1 hts gu_hX9_pointHolds_X6_rainIn_357 rfl rfl rfl (by decide +kernel) ⟨Nat.le_of_ble_eq_true rfl, Nat.le_of_ble_eq_true rfl⟩) (tP_V hV_144 hE at_149 rfl) rfl rfl hl.1 rfl (lv_room (Nat.le_of_ble_eq_true rfl)) dX9_pointHolds_67 ⟨Nat.le_of_ble_eq_true rfl, Nat.le_of_ble_eq_true rfl⟩) hS (fun q h => by simp [wr0] at h) (fun r_150 H locs hp_151 hV_154 hS o_152 => ?_)
          replace hG := tG.kept0 hG o_152
          have at_143 := va_at.keptC (t := (fun q => cwM (t q))) at_143 o_152 (show cwM (t a0) = 0 by rw [k_a0]; rfl) rfl
          have at_149 := va_at.keptC (t := (fun q => cwM (t q))) at_149 o_152 (show cwM (t r_121) = 4 by rw [h_122]; rfl) rfl
          clear hV_144 hV_154
          refine lv_pc (pc2 := 70) rfl ?_
          refine lv_aload_n hx hb dX9_pointHolds_70 rfl (lv_at hl 2 rfl) ?_
          refine va_get (D := D) (ci := 8) (v := .ref r_121) (C := RX9) (T := TX9) (N := 18) hx hb hts in9 hown hK (va_one at_143) 0 rfl rfl 6 (by decide) (hts (.fieldLink RX9 39 "RiverModel" "skyA" "LRiverModel$Sky;") (List.mem_of_getElem? (i := 22) rfl)) (fun _ h9 => h9) rfl dX9_pointHolds_71 ?_
          refine lv_iload_n hx hb dX9_pointHolds_74 rfl (lv_at hl 0 rfl) ?_
          have hV_155 : tG D (gF cI cL cC gC gE g1 gW gA) (fun q => cwM (t q)) H := tG.vw hG (cwM_vw ⟨by omega, by omega⟩) rfl
          refine tw_calli (t := t) (W.runV (As := [.int yh]) (rest := [.int r_150, .ref r_117, .ref r_129]) ⟨hx, hb, hml, hown, hts⟩ (s_X6_tempIn l D (fun q => cwM (t q)) cI cL cC gC gE g1 gW gA r_121 yh (show cwM (t r_121) = 4 by rw [h_122]; rfl)) (cwV 1 hts gu_hX9_pointHolds_X6_tempIn_360 rfl rfl rfl (by decide +kernel) ⟨Nat.le_of_ble_eq_true rfl, Nat.le_of_ble_eq_true rfl⟩) (tP_V hV_155 hE at_149 rfl) rfl rfl hl.1 rfl (lv_room (Nat.le_of_ble_eq_true rfl)) dX9_pointHolds_75 ⟨Nat.le_of_ble_eq_true rfl, Nat.le_of_ble_eq_true rfl⟩) hS (fun q h => by simp [wr0] at h) (fun r_156 H locs hp_157 hV_160 hS o_158 => ?_)
          replace hG := tG.kept0 hG o_158
          have at_143 := va_at.keptC (t := (fun q => cwM (t q))) at_143 o_158 (show cwM (t a0) = 0 by rw [k_a0]; rfl) rfl
          have at_149 := va_at.keptC (t := (fun q => cwM (t q))) at_149 o_158 (show cwM (t r_121) = 4 by rw [h_122]; rfl) rfl
          clear hV_155 hV_160
          have hV_161 : tG D (gF cI cL cC gC gE g1 gW gA) (fun q => cwD (t q)) H := tG.vw hG (cwD_vw ⟨by omega, by omega⟩) rfl
          obtain ⟨r_162, r_164, r_166, r_168, v_170, v_171, v_172, v_173, at_175, h_163, h_165, h_167, h_169, h_174⟩ := hF_o5 hG h_130
          refine tw_callv (t := t) (W.runV (As := [.ref r_117, .int r_150, .int r_156]) (rest := []) ⟨hx, hb, hml, hown, hts⟩ (s_X0_goHour l D (fun q => cwD (t q)) cI cL cC gC gE g1 gW gA r_129 r_117 r_150 r_156 (by omega) (show cwD (t r_129) = 5 by rw [h_130]; rfl) (show cwD (t r_117) = 3 by rw [h_118]; rfl)) (cwV 3 hts gu_hX9_pointHolds_X0_goHour_363 rfl rfl rfl (by decide +kernel) ⟨Nat.le_of_ble_eq_true rfl, Nat.le_of_ble_eq_true rfl⟩) (tP_V hV_161 hE at_175 rfl) rfl rfl hl.1 rfl (lv_room (Nat.le_of_ble_eq_true rfl)) dX9_pointHolds_78 ⟨Nat.le_of_ble_eq_true rfl, Nat.le_of_ble_eq_true rfl⟩) hS (fun q h => cwD_wrC_hPH h) (fun H locs hp_177 hV_180 hS o_178 => ?_)
          replace hG : tG D (hF cI cL cC gC gP gT gR mm ms mg mL mQ mZ um_45 us_46 ug_47 gL_74 uQ_49 uZ_50 om os og oL oQ oZ gB gO xk gE gV gU gN (g1 + 1) gW gA) t H := tG.unvw hG hV_180 o_178 rfl (cwD_wrC_b (G := g1)) (cwD_wrC_o (by omega))
          have at_143 := va_at.keptC (t := (fun q => cwD (t q))) at_143 o_178 (show cwD (t a0) = 0 by rw [k_a0]; rfl) rfl
          have at_149 := va_at.keptC (t := (fun q => cwD (t q))) at_149 o_178 (show cwD (t r_121) = 4 by rw [h_122]; rfl) rfl
          clear hV_161 hV_180
          refine lv_aload_n hx hb dX9_pointHolds_81 rfl (lv_at hl 2 rfl) ?_
          refine va_get (D := D) (ci := 8) (v := .ref r_135) (C := RX9) (T := TX9) (N := 18) hx hb hts in9 hown hK (va_one at_143) 0 rfl rfl 14 (by decide) (hts (.fieldLink RX9 74 "RiverModel" "gauges" "LRiverModel$Gauges;") (List.mem_of_getElem? (i := 17) rfl)) (fun _ h9 => h9) rfl dX9_pointHolds_82 ?_
          refine lv_aload_n hx hb dX9_pointHolds_85 rfl (lv_at hl 2 rfl) ?_
          refine lv_pc (pc2 := 86) rfl ?_
          refine va_get (D := D) (ci := 8) (v := .ref r_129) (C := RX9) (T := TX9) (N := 18) hx hb hts in9 hown hK (va_one at_143) 0 rfl rfl 10 (by decide) (hts (.fieldLink RX9 57 "RiverModel" "trial" "LRiverModel$Course;") (List.mem_of_getElem? (i := 12) rfl)) (fun _ h9 => h9) rfl dX9_pointHolds_86 ?_
          refine lv_iload_n hx hb dX9_pointHolds_89 rfl (lv_at hl 0 rfl) ?_
          have hV_181 : tG D (gF cI cL cC gC gE (g1 + 1) gW gA) (fun q => cwM (t q)) H := tG.vw hG (cwM_vw ⟨by omega, by omega⟩) rfl
          obtain ⟨r_182, r_184, r_186, at_188, h_183, h_185, h_187⟩ := hF_o6 hG h_136
          refine tw_calli (t := t) (W.runV (As := [.ref r_129, .int yh]) (rest := []) ⟨hx, hb, hml, hown, hts⟩ (s_X1_agree l D (fun q => cwM (t q)) cI cL cC gC gE (g1 + 1) gW gA r_135 r_129 yh (by omega) (show cwM (t r_135) = 6 by rw [h_136]; rfl) (show cwM (t r_129) = 5 by rw [h_130]; rfl)) (cwV 2 hts gu_hX9_pointHolds_X1_agree_367 rfl rfl rfl (by decide +kernel) ⟨Nat.le_of_ble_eq_true rfl, Nat.le_of_ble_eq_true rfl⟩) (tP_V hV_181 hE at_188 rfl) rfl rfl hl.1 rfl (lv_room (Nat.le_of_ble_eq_true rfl)) dX9_pointHolds_90 ⟨Nat.le_of_ble_eq_true rfl, Nat.le_of_ble_eq_true rfl⟩) hS (fun q h => by simp [wr0] at h) (fun r_189 H locs hp_190 hV_193 hS o_191 => ?_)
          replace hG := tG.kept0 hG o_191
          have at_143 := va_at.keptC (t := (fun q => cwM (t q))) at_143 o_191 (show cwM (t a0) = 0 by rw [k_a0]; rfl) rfl
          have at_149 := va_at.keptC (t := (fun q => cwM (t q))) at_149 o_191 (show cwM (t r_121) = 4 by rw [h_122]; rfl) rfl
          have at_188 := va_at.keptC (t := (fun q => cwM (t q))) at_188 o_191 (show cwM (t r_135) = 6 by rw [h_136]; rfl) rfl
          clear hV_181 hV_193
          rcases hp_190 with rfl | rfl
          · skip
            refine lv_if_ne (tgt := 98) hx hb dX9_pointHolds_93 (by decide) (fun q => absurd rfl q) (fun _ => ?_)
            refine lv_iconst (v := 0) hx hb dX9_pointHolds_96 (by decide) ?_
            have zi_0 : (0 : Int32).toInt = 0 := by decide
            exact tx_zret (z := (um_45, us_46, ug_47, gL_74, uQ_49, uZ_50, g1 + 1)) hx hb hr hlk rfl hG hS (Or.inr ⟨rfl, (by show drK mL mQ mm ms mg gL_74 uQ_49 um_45 us_46 ug_47; exact ⟨smK.tr (smK.cp p_51) p_75, p_52, by omega, by omega, by omega⟩), (by show ((g1 + 1) : Int) ≤ (G : Int) + 96; omega), (by show 0 ≤ ug_47.toInt; omega), (by show ug_47.toInt ≤ 4; omega)⟩) dX9_pointHolds_97
          · skip
            refine lv_if_ne (tgt := 98) hx hb dX9_pointHolds_93 (by decide) (fun _ => ?_) (fun q => absurd q (by decide))
            obtain ⟨x_194, e_195⟩ : ∃ y : Int32, y = yh + Int32.ofInt 1 := ⟨_, rfl⟩
            have i_x_194 : x_194.toInt = yh.toInt + 1 := by rw [e_195, show Int32.ofInt 1 = 1 by decide]; exact (q_add (by rw [show (1 : Int32).toInt = 1 by decide]; omega) (by rw [show (1 : Int32).toInt = 1 by decide]; omega)).trans (by rw [show (1 : Int32).toInt = 1 by decide])
            refine lv_iinc (v := x_194) (lv' := [(3, .int x_194), (2, .int r_105), (0, .ref a0), (1, .int a1)]) hx hb dX9_pointHolds_98 hl (k := 0) rfl e_195.symm (by decide) rfl (fun ls hl => ?_)
            refine lv_pc (pc2 := 101) rfl ?_
            refine lv_goto (tgt := 49) hx hb dX9_pointHolds_101 (by decide) ?_
            exact (hWW110 _ _ _).mp (ih110 x_194 (g1 + 1) H locs ls (by omega) (by omega) (by omega) (by omega) hG hS (lv_sub hl [0, 1, 2, 3] rfl))
    have zi_0 : (0 : Int32).toInt = 0 := by decide
    exact lp110 (96 - (0 : Int32).toInt : Int).toNat 0 G H locs ls (by omega) (by omega) (by omega) (by omega) hG hS (lv_sub hl [0, 1, 2, 3] rfl)
  · skip
    refine lv_if_ne (tgt := 28) hx hb dX9_pointHolds_23 (by decide) (fun q => absurd rfl q) (fun _ => ?_)
    refine lv_iconst (v := 0) hx hb dX9_pointHolds_26 (by decide) ?_
    have zi_0 : (0 : Int32).toInt = 0 := by decide
    exact tx_zret (z := (um_45, us_46, ug_47, gL_74, uQ_49, uZ_50, G)) hx hb hr hlk rfl hG hS (Or.inr ⟨rfl, (by show drK mL mQ mm ms mg gL_74 uQ_49 um_45 us_46 ug_47; exact ⟨smK.tr (smK.cp p_51) p_76, p_52, by omega, by omega, by omega⟩), (by show (G : Int) ≤ (G : Int) + 96; omega), (by show 0 ≤ ug_47.toInt; omega), (by show ug_47.toInt ≤ 4; omega)⟩) dX9_pointHolds_27
