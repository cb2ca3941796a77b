set_option maxRecDepth 20000 in
theorem ggX9_init_X7_init : GoodIn wsX9_init wsX7_init := goodIn_r _ [48, 49, 2, 3, 21, 50, 51, 52, 53, 123, 124, 125, 126] (by decide +kernel) (by decide +kernel)
set_option maxRecDepth 20000 in
theorem gX9_init_X7_init_n9 : GoodIn wsX9_init (wsX7_init) := ggX9_init_X7_init
set_option maxRecDepth 20000 in
theorem ggX9_init_X4_init : GoodIn wsX9_init wsX4_init := goodIn_r _ [55, 56, 2, 3, 21, 57, 58, 59, 60, 61, 62, 145, 146, 147, 148, 149, 150] (by decide +kernel) (by decide +kernel)
set_option maxRecDepth 20000 in
theorem gX9_init_X4_init_n18 : GoodIn wsX9_init (wsX4_init) := ggX9_init_X4_init
set_option maxRecDepth 20000 in
theorem ggX9_init_X6_init : GoodIn wsX9_init wsX6_init := goodIn_r _ [65, 66, 2, 3, 21, 67, 68, 69, 70, 71, 72, 151, 152] (by decide +kernel) (by decide +kernel)
set_option maxRecDepth 20000 in
theorem gX9_init_X6_init : GoodIn wsX9_init (wsX6_init) := ggX9_init_X6_init
set_option maxRecDepth 20000 in
theorem ggX9_init_X0_init : GoodIn wsX9_init wsX0_init := goodIn_r _ [74, 75, 2, 3, 76, 77, 78, 21, 79, 80, 81, 82, 83, 84, 153, 154, 155, 156, 157, 158, 159, 160] (by decide +kernel) (by decide +kernel)
set_option maxRecDepth 20000 in
theorem gX9_init_X0_init_n52 : GoodIn wsX9_init (wsX0_init) := ggX9_init_X0_init
set_option maxRecDepth 20000 in
theorem ggX9_init_X1_init : GoodIn wsX9_init wsX1_init := goodIn_r _ [87, 88, 2, 3, 21, 89, 90, 91, 92, 93, 70, 71, 72, 161, 162, 163, 164] (by decide +kernel) (by decide +kernel)
set_option maxRecDepth 20000 in
theorem gX9_init_X1_init : GoodIn wsX9_init (wsX1_init) := ggX9_init_X1_init
set_option maxRecDepth 20000 in
theorem ggX9_init_X3_init : GoodIn wsX9_init wsX3_init := goodIn_r _ [95, 96, 2, 3, 21, 97, 98, 99, 100, 101, 165, 166, 167, 168, 169] (by decide +kernel) (by decide +kernel)
set_option maxRecDepth 20000 in
theorem gX9_init_X3_init_n80 : GoodIn wsX9_init (wsX3_init) := ggX9_init_X3_init
set_option maxRecDepth 20000 in
theorem ggX9_init_X8_init : GoodIn wsX9_init wsX8_init := goodIn_r _ [103, 104, 2, 3, 21, 105, 106, 107, 170, 171, 172] (by decide +kernel) (by decide +kernel)
set_option maxRecDepth 20000 in
theorem gX9_init_X8_init_n87 : GoodIn wsX9_init (wsX8_init) := ggX9_init_X8_init
set_option maxRecDepth 20000 in
theorem ggX9_init_X5_init : GoodIn wsX9_init wsX5_init := goodIn_r _ [110, 111, 2, 3, 112, 113, 21, 114, 115, 116, 117, 118, 119, 120, 121, 122, 24, 25, 73, 74, 75, 76, 77, 78, 79, 80, 81, 82, 83, 84, 173, 174, 175, 176, 177, 178, 179, 180, 181, 182, 153, 154, 155, 156, 157, 158, 159, 160] (by decide +kernel) (by decide +kernel)
set_option maxRecDepth 20000 in
theorem gX9_init_X5_init : GoodIn wsX9_init (wsX5_init) := ggX9_init_X5_init
theorem dX9_init_0 : decode cX9_init 0 = .ok (.aload_n 0, 1) := by decide +kernel
theorem dX9_init_1 : decode cX9_init 1 = .ok (.invokespecial 1, 3) := by decide +kernel
theorem dX9_init_4 : decode cX9_init 4 = .ok (.aload_n 0, 1) := by decide +kernel
theorem dX9_init_5 : decode cX9_init 5 = .ok (.new 7, 3) := by decide +kernel
theorem dX9_init_8 : decode cX9_init 8 = .ok (.dup, 1) := by decide +kernel
theorem dX9_init_9 : decode cX9_init 9 = .ok (.invokespecial 9, 3) := by decide +kernel
theorem dX9_init_12 : decode cX9_init 12 = .ok (.putfield 10, 3) := by decide +kernel
theorem dX9_init_15 : decode cX9_init 15 = .ok (.aload_n 0, 1) := by decide +kernel
theorem dX9_init_16 : decode cX9_init 16 = .ok (.new 16, 3) := by decide +kernel
theorem dX9_init_19 : decode cX9_init 19 = .ok (.dup, 1) := by decide +kernel
theorem dX9_init_20 : decode cX9_init 20 = .ok (.invokespecial 18, 3) := by decide +kernel
theorem dX9_init_23 : decode cX9_init 23 = .ok (.putfield 19, 3) := by decide +kernel
theorem dX9_init_26 : decode cX9_init 26 = .ok (.aload_n 0, 1) := by decide +kernel
theorem dX9_init_27 : decode cX9_init 27 = .ok (.new 16, 3) := by decide +kernel
theorem dX9_init_30 : decode cX9_init 30 = .ok (.dup, 1) := by decide +kernel
theorem dX9_init_31 : decode cX9_init 31 = .ok (.invokespecial 18, 3) := by decide +kernel
theorem dX9_init_34 : decode cX9_init 34 = .ok (.putfield 23, 3) := by decide +kernel
theorem dX9_init_37 : decode cX9_init 37 = .ok (.aload_n 0, 1) := by decide +kernel
theorem dX9_init_38 : decode cX9_init 38 = .ok (.new 16, 3) := by decide +kernel
theorem dX9_init_41 : decode cX9_init 41 = .ok (.dup, 1) := by decide +kernel
theorem dX9_init_42 : decode cX9_init 42 = .ok (.invokespecial 18, 3) := by decide +kernel
theorem dX9_init_45 : decode cX9_init 45 = .ok (.putfield 26, 3) := by decide +kernel
theorem dX9_init_48 : decode cX9_init 48 = .ok (.aload_n 0, 1) := by decide +kernel
theorem dX9_init_49 : decode cX9_init 49 = .ok (.iconst 0, 1) := by decide +kernel
theorem dX9_init_50 : decode cX9_init 50 = .ok (.putfield 29, 3) := by decide +kernel
theorem dX9_init_53 : decode cX9_init 53 = .ok (.aload_n 0, 1) := by decide +kernel
theorem dX9_init_54 : decode cX9_init 54 = .ok (.iconst 0, 1) := by decide +kernel
theorem dX9_init_55 : decode cX9_init 55 = .ok (.putfield 33, 3) := by decide +kernel
theorem dX9_init_58 : decode cX9_init 58 = .ok (.aload_n 0, 1) := by decide +kernel
theorem dX9_init_59 : decode cX9_init 59 = .ok (.new 36, 3) := by decide +kernel
theorem dX9_init_62 : decode cX9_init 62 = .ok (.dup, 1) := by decide +kernel
theorem dX9_init_63 : decode cX9_init 63 = .ok (.invokespecial 38, 3) := by decide +kernel
theorem dX9_init_66 : decode cX9_init 66 = .ok (.putfield 39, 3) := by decide +kernel
theorem dX9_init_69 : decode cX9_init 69 = .ok (.aload_n 0, 1) := by decide +kernel
theorem dX9_init_70 : decode cX9_init 70 = .ok (.new 36, 3) := by decide +kernel
theorem dX9_init_73 : decode cX9_init 73 = .ok (.dup, 1) := by decide +kernel
theorem dX9_init_74 : decode cX9_init 74 = .ok (.invokespecial 38, 3) := by decide +kernel
theorem dX9_init_77 : decode cX9_init 77 = .ok (.putfield 43, 3) := by decide +kernel
theorem dX9_init_80 : decode cX9_init 80 = .ok (.aload_n 0, 1) := by decide +kernel
theorem dX9_init_81 : decode cX9_init 81 = .ok (.bipush 16, 2) := by decide +kernel
theorem dX9_init_83 : decode cX9_init 83 = .ok (.newarray .int, 2) := by decide +kernel
theorem dX9_init_85 : decode cX9_init 85 = .ok (.putfield 46, 3) := by decide +kernel
theorem dX9_init_88 : decode cX9_init 88 = .ok (.aload_n 0, 1) := by decide +kernel
theorem dX9_init_89 : decode cX9_init 89 = .ok (.new 50, 3) := by decide +kernel
theorem dX9_init_92 : decode cX9_init 92 = .ok (.dup, 1) := by decide +kernel
theorem dX9_init_93 : decode cX9_init 93 = .ok (.invokespecial 52, 3) := by decide +kernel
theorem dX9_init_96 : decode cX9_init 96 = .ok (.putfield 53, 3) := by decide +kernel
theorem dX9_init_99 : decode cX9_init 99 = .ok (.aload_n 0, 1) := by decide +kernel
theorem dX9_init_100 : decode cX9_init 100 = .ok (.new 50, 3) := by decide +kernel
theorem dX9_init_103 : decode cX9_init 103 = .ok (.dup, 1) := by decide +kernel
theorem dX9_init_104 : decode cX9_init 104 = .ok (.invokespecial 52, 3) := by decide +kernel
theorem dX9_init_107 : decode cX9_init 107 = .ok (.putfield 57, 3) := by decide +kernel
theorem dX9_init_110 : decode cX9_init 110 = .ok (.aload_n 0, 1) := by decide +kernel
theorem dX9_init_111 : decode cX9_init 111 = .ok (.new 50, 3) := by decide +kernel
theorem dX9_init_114 : decode cX9_init 114 = .ok (.dup, 1) := by decide +kernel
theorem dX9_init_115 : decode cX9_init 115 = .ok (.invokespecial 52, 3) := by decide +kernel
theorem dX9_init_118 : decode cX9_init 118 = .ok (.putfield 60, 3) := by decide +kernel
theorem dX9_init_121 : decode cX9_init 121 = .ok (.aload_n 0, 1) := by decide +kernel
theorem dX9_init_122 : decode cX9_init 122 = .ok (.iconst 3, 1) := by decide +kernel
theorem dX9_init_123 : decode cX9_init 123 = .ok (.anewarray 50, 3) := by decide +kernel
theorem dX9_init_126 : decode cX9_init 126 = .ok (.putfield 63, 3) := by decide +kernel
theorem dX9_init_129 : decode cX9_init 129 = .ok (.aload_n 0, 1) := by decide +kernel
theorem dX9_init_130 : decode cX9_init 130 = .ok (.iconst 0, 1) := by decide +kernel
theorem dX9_init_131 : decode cX9_init 131 = .ok (.putfield 67, 3) := by decide +kernel
theorem dX9_init_134 : decode cX9_init 134 = .ok (.aload_n 0, 1) := by decide +kernel
theorem dX9_init_135 : decode cX9_init 135 = .ok (.new 71, 3) := by decide +kernel
theorem dX9_init_138 : decode cX9_init 138 = .ok (.dup, 1) := by decide +kernel
theorem dX9_init_139 : decode cX9_init 139 = .ok (.invokespecial 73, 3) := by decide +kernel
theorem dX9_init_142 : decode cX9_init 142 = .ok (.putfield 74, 3) := by decide +kernel
theorem dX9_init_145 : decode cX9_init 145 = .ok (.aload_n 0, 1) := by decide +kernel
theorem dX9_init_146 : decode cX9_init 146 = .ok (.new 78, 3) := by decide +kernel
theorem dX9_init_149 : decode cX9_init 149 = .ok (.dup, 1) := by decide +kernel
theorem dX9_init_150 : decode cX9_init 150 = .ok (.invokespecial 80, 3) := by decide +kernel
theorem dX9_init_153 : decode cX9_init 153 = .ok (.putfield 81, 3) := by decide +kernel
theorem dX9_init_156 : decode cX9_init 156 = .ok (.aload_n 0, 1) := by decide +kernel
theorem dX9_init_157 : decode cX9_init 157 = .ok (.new 85, 3) := by decide +kernel
theorem dX9_init_160 : decode cX9_init 160 = .ok (.dup, 1) := by decide +kernel
theorem dX9_init_161 : decode cX9_init 161 = .ok (.invokespecial 87, 3) := by decide +kernel
theorem dX9_init_164 : decode cX9_init 164 = .ok (.putfield 88, 3) := by decide +kernel
theorem dX9_init_167 : decode cX9_init 167 = .ok (.aload_n 0, 1) := by decide +kernel
theorem dX9_init_168 : decode cX9_init 168 = .ok (.new 92, 3) := by decide +kernel
theorem dX9_init_171 : decode cX9_init 171 = .ok (.dup, 1) := by decide +kernel
theorem dX9_init_172 : decode cX9_init 172 = .ok (.invokespecial 94, 3) := by decide +kernel
theorem dX9_init_175 : decode cX9_init 175 = .ok (.putfield 95, 3) := by decide +kernel
theorem dX9_init_178 : decode cX9_init 178 = .ok (.iconst 0, 1) := by decide +kernel
theorem dX9_init_179 : decode cX9_init 179 = .ok (.istore_n 1, 1) := by decide +kernel
theorem dX9_init_180 : decode cX9_init 180 = .ok (.iload_n 1, 1) := by decide +kernel
theorem dX9_init_181 : decode cX9_init 181 = .ok (.iconst 3, 1) := by decide +kernel
theorem dX9_init_182 : decode cX9_init 182 = .ok (.if_icmp .ge 22, 3) := by decide +kernel
theorem dX9_init_185 : decode cX9_init 185 = .ok (.aload_n 0, 1) := by decide +kernel
theorem dX9_init_186 : decode cX9_init 186 = .ok (.getfield 63, 3) := by decide +kernel
theorem dX9_init_189 : decode cX9_init 189 = .ok (.iload_n 1, 1) := by decide +kernel
theorem dX9_init_190 : decode cX9_init 190 = .ok (.new 50, 3) := by decide +kernel
theorem dX9_init_193 : decode cX9_init 193 = .ok (.dup, 1) := by decide +kernel
theorem dX9_init_194 : decode cX9_init 194 = .ok (.invokespecial 52, 3) := by decide +kernel
theorem dX9_init_197 : decode cX9_init 197 = .ok (.aastore, 1) := by decide +kernel
theorem dX9_init_198 : decode cX9_init 198 = .ok (.iinc 1 1, 3) := by decide +kernel
theorem dX9_init_201 : decode cX9_init 201 = .ok (.goto (-21), 3) := by decide +kernel
theorem dX9_init_204 : decode cX9_init 204 = .ok (.return_, 1) := by decide +kernel
set_option maxHeartbeats 4000000 in
set_option maxRecDepth 100000 in
theorem cc_X9 (l : Launch) (D : va_G) (cI cL cC : ClassId) (h0 : Nat) : Met l yX9_init wsX9_init ({ frames := 3, cells := 91, slots := 4915, locals := 53 }) (cP D cI cL cC 8 [.null, .null, .null, .null, .int 0, .int 0, .null, .null, .null, .null, .null, .null, .null, .int 0, .null, .null, .null, .null] h0) (cQ D (gF cI cL cC 0 0 0 (fun _ => 0) (fun _ => 0)) [1, 2, 10, 11, 3, 12, 13, 14, 3, 12, 13, 14, 3, 12, 13, 14, 4, 15, 16, 4, 15, 16, 35, 5, 17, 18, 19, 20, 5, 17, 18, 19, 20, 5, 17, 18, 19, 20, 36, 6, 21, 22, 23, 7, 24, 25, 26, 27, 28, 8, 29, 30, 31, 9, 32, 33, 34, 5, 17, 18, 19, 20, 5, 17, 18, 19, 20, 5, 17, 18, 19, 20, 5, 17, 18, 19, 20, 5, 17, 18, 19, 20, 5, 17, 18, 19, 20, 5, 17, 18, 19, 20] h0) 91 4915 (fun q => h0 ≤ q) := by
  refine cM_ofW (cc := cX9_init) (maxL := 2) (by decide) rfl rfl (by decide) ?_
  intro p e s m below meth c hx hb hr hml hown hts hlk hin hz at0 hK hE hS ls hl
  have hl : lv_has ls 2 [(0, .ref h0)] := hl
  have in7 : ∀ w ∈ wsX70, w ∈ wsX9_init := fun w h => List.mem_cons_of_mem _ (List.mem_append_left _ (List.mem_append_left _ (List.mem_append_left _ (List.mem_append_left _ (List.mem_append_left _ (List.mem_append_left _ (List.mem_append_left _ (List.mem_append_left _ (List.mem_append_right _ h)))))))))
  have in9 : ∀ w ∈ wsX90, w ∈ wsX9_init := fun w h => List.mem_cons_of_mem _ (List.mem_append_left _ (List.mem_append_left _ (List.mem_append_left _ (List.mem_append_left _ (List.mem_append_left _ (List.mem_append_left _ (List.mem_append_left _ (List.mem_append_right _ h))))))))
  have in4 : ∀ w ∈ wsX40, w ∈ wsX9_init := fun w h => List.mem_cons_of_mem _ (List.mem_append_left _ (List.mem_append_left _ (List.mem_append_left _ (List.mem_append_left _ (List.mem_append_left _ (List.mem_append_left _ (List.mem_append_right _ h)))))))
  have in6 : ∀ w ∈ wsX60, w ∈ wsX9_init := fun w h => List.mem_cons_of_mem _ (List.mem_append_left _ (List.mem_append_left _ (List.mem_append_left _ (List.mem_append_left _ (List.mem_append_left _ (List.mem_append_right _ h))))))
  have in0 : ∀ w ∈ wsX00, w ∈ wsX9_init := fun w h => List.mem_cons_of_mem _ (List.mem_append_left _ (List.mem_append_left _ (List.mem_append_left _ (List.mem_append_left _ (List.mem_append_right _ h)))))
  have in1 : ∀ w ∈ wsX10, w ∈ wsX9_init := fun w h => List.mem_cons_of_mem _ (List.mem_append_left _ (List.mem_append_left _ (List.mem_append_left _ (List.mem_append_right _ h))))
  have in3 : ∀ w ∈ wsX30, w ∈ wsX9_init := fun w h => List.mem_cons_of_mem _ (List.mem_append_left _ (List.mem_append_left _ (List.mem_append_right _ h)))
  have in8 : ∀ w ∈ wsX80, w ∈ wsX9_init := fun w h => List.mem_cons_of_mem _ (List.mem_append_left _ (List.mem_append_right _ h))
  have in5 : ∀ w ∈ wsX50, w ∈ wsX9_init := fun w h => List.mem_cons_of_mem _ (List.mem_append_right _ h)
  refine lv_aload_n hx hb dX9_init_0 rfl (lv_at hl 0 rfl) ?_
  refine W.objInit hx hb hown (hts (.methodLink RX9 1 objectInit) (List.mem_of_getElem? (i := 1) rfl)) (hts (.instanceMethod objectInit) (List.mem_of_getElem? (i := 2) rfl)) (hts (.code objectInit ⟨#[0xb1]⟩ 1 none) (List.mem_of_getElem? (i := 3) rfl)) rfl (by rw [hml]; exact hl.1) rfl dX9_init_1 (Nat.le_of_ble_eq_true rfl) (Nat.le_of_ble_eq_true rfl) ?_
  refine W.eq (g2 := F0 m 4 ls []) rfl ?_
  refine lv_aload_n hx hb dX9_init_4 rfl (lv_at hl 0 rfl) ?_
  refine nw_new (ci := 6) (fs := [.null, .null, .int 0, .int 0]) (C := RX7) (T := TX7) (N := 4) (z := h0 + 1) hx hb hts in7 tyX7 tyX7_ok hown (hts (.classLink RX9 7 RX7) (List.mem_of_getElem? (i := 4) rfl)) (hts (.instantiable RX7 4) (List.mem_of_getElem? (i := 5) rfl)) (hts (.initialized RX7) (List.mem_of_getElem? (i := 6) rfl)) hK rfl df_X7 hS hz (Nat.le_add_right _ _) (Nat.le_of_ble_eq_true rfl) (Nat.le_of_ble_eq_true rfl) dX9_init_5 (fun H at_1 hz o_2 hS => ?_)
  replace at0 := va_at.keptA (b := h0) (z := 1) 0 at0 o_2 (Nat.le_of_ble_eq_true rfl)
  clear o_2
  have hz : H.size = h0 + 2 := hz
  refine lv_dup hx hb dX9_init_8 rfl ?_
  refine nw_call (z := h0 + 1) (tRun (va_runIN (As := []) (rest := [.ref (h0 + 1), .ref h0]) ⟨hx, hb, hml, hown, hts⟩ (cc_X7 l D cI cL cC (h0 + 1)) ⟨va_cnB 0 hts gX9_init_X7_init_n9 rfl rfl rfl (hE.2.1 _ (List.mem_of_getElem? (i := 0) rfl)) (hts (.initialized RX7) (List.mem_of_getElem? (i := 6) rfl)) (by decide +kernel) ⟨Nat.le_of_ble_eq_true rfl, Nat.le_of_ble_eq_true rfl⟩, rfl, (hts (.instanceMethod yX7_init) (List.mem_of_getElem? (i := 47) rfl))⟩ (cP_I hz at_1 hE) rfl rfl hl.1 rfl (lv_room (Nat.le_of_ble_eq_true rfl)) dX9_init_9 ⟨Nat.le_of_ble_eq_true rfl, Nat.le_of_ble_eq_true rfl⟩)) hS hz (by decide) (Nat.le_add_right _ _) (fun H locs sg_3 hz o_4 hS => ?_)
  replace at0 := va_at.keptA (b := h0) (z := 1) 0 at0 o_4 (Nat.le_of_ble_eq_true rfl)
  have hz : H.size = h0 + 4 := tSlen (n := 3) hz rfl
  clear o_4
  have sg_3 : tS D (gF cI cL cC 0 0 0 (fun _ => 0) (fun _ => 0)) [2, 10, 11] (h0 + 1) H := sg_3
  refine nw_putF (D := D) (ci := 8) (v := .ref (h0 + 1)) (ty := .object "RiverModel$Text") (C := RX9) (T := TX9) (N := 18) hx hb hts in9 tyX9 tyX9_ok nmX9 hown hK hS (Nat.le_refl _) at0 rfl 0 (by decide) (hts (.fieldLink RX9 10 "RiverModel" "text" "LRiverModel$Text;") (List.mem_of_getElem? (i := 7) rfl)) (fun _ h9 => h9) rfl hin rfl (by decide +kernel) rfl rfl (Nat.le_of_ble_eq_true rfl) dX9_init_12 (fun H locs at0 hz_6 o_5 hS => ?_)
  have at0 : va_at D vwCl (h0, .inr (8, [.ref (h0 + 1), .null, .null, .null, .int 0, .int 0, .null, .null, .null, .null, .null, .null, .null, .int 0, .null, .null, .null, .null])) H := at0
  replace hz : H.size = h0 + 4 := hz_6.trans hz
  replace sg_3 := tS.keptP (b := h0) (j := 0) 1 3 sg_3 rfl o_5 rfl
  clear o_5 hz_6
  refine lv_pc (pc2 := 15) rfl ?_
  refine lv_aload_n hx hb dX9_init_15 rfl (lv_at hl 0 rfl) ?_
  refine nw_new (ci := 3) (fs := [.null, .null, .null, .int 0, .int 0, .int 0]) (C := RX4) (T := TX4) (N := 6) (z := h0 + 4) hx hb hts in4 tyX4 tyX4_ok hown (hts (.classLink RX9 16 RX4) (List.mem_of_getElem? (i := 8) rfl)) (hts (.instantiable RX4 6) (List.mem_of_getElem? (i := 9) rfl)) (hts (.initialized RX4) (List.mem_of_getElem? (i := 10) rfl)) hK rfl df_X4 hS hz (Nat.le_add_right _ _) (Nat.le_of_ble_eq_true rfl) (Nat.le_of_ble_eq_true rfl) dX9_init_16 (fun H at_7 hz o_8 hS => ?_)
  replace at0 := va_at.keptA (b := h0) (z := 4) 0 at0 o_8 (Nat.le_of_ble_eq_true rfl)
  replace sg_3 := tS.keptA (b := h0) (z := 4) 1 3 sg_3 rfl o_8 (Nat.le_of_ble_eq_true rfl)
  clear o_8
  have hz : H.size = h0 + 5 := hz
  refine lv_dup hx hb dX9_init_19 rfl ?_
  refine nw_call (z := h0 + 4) (tRun (va_runIN (As := []) (rest := [.ref (h0 + 4), .ref h0]) ⟨hx, hb, hml, hown, hts⟩ (cc_X4 l D cI cL cC (h0 + 4)) ⟨va_cnB 0 hts gX9_init_X4_init_n18 rfl rfl rfl (hE.2.1 _ (List.mem_of_getElem? (i := 1) rfl)) (hts (.initialized RX4) (List.mem_of_getElem? (i := 10) rfl)) (by decide +kernel) ⟨Nat.le_of_ble_eq_true rfl, Nat.le_of_ble_eq_true rfl⟩, rfl, (hts (.instanceMethod yX4_init) (List.mem_of_getElem? (i := 54) rfl))⟩ (cP_I hz at_7 hE) rfl rfl hl.1 rfl (lv_room (Nat.le_of_ble_eq_true rfl)) dX9_init_20 ⟨Nat.le_of_ble_eq_true rfl, Nat.le_of_ble_eq_true rfl⟩)) hS hz (by decide) (Nat.le_add_right _ _) (fun H locs sg_9 hz o_10 hS => ?_)
  replace at0 := va_at.keptA (b := h0) (z := 4) 0 at0 o_10 (Nat.le_of_ble_eq_true rfl)
  replace sg_3 := tS.keptA (b := h0) (z := 4) 1 3 sg_3 rfl o_10 (Nat.le_of_ble_eq_true rfl)
  have hz : H.size = h0 + 8 := tSlen (n := 4) hz rfl
  clear o_10
  have sg_9 : tS D (gF cI cL cC 0 0 0 (fun _ => 0) (fun _ => 0)) [3, 12, 13, 14] (h0 + 4) H := sg_9
  refine nw_put (D := D) (ci := 8) (v := .ref (h0 + 4)) (ty := .object "RiverModel$Model") (C := RX9) (T := TX9) (N := 18) hx hb hts in9 tyX9 tyX9_ok nmX9 hown hK hS (Nat.le_refl _) at0 rfl 1 (by decide) (hts (.fieldLink RX9 19 "RiverModel" "model" "LRiverModel$Model;") (List.mem_of_getElem? (i := 11) rfl)) (fun _ h9 => h9) rfl (by decide +kernel) rfl rfl (Nat.le_of_ble_eq_true rfl) dX9_init_23 (fun H locs at0 hz_12 o_11 hS => ?_)
  have at0 : va_at D vwCl (h0, .inr (8, [.ref (h0 + 1), .ref (h0 + 4), .null, .null, .int 0, .int 0, .null, .null, .null, .null, .null, .null, .null, .int 0, .null, .null, .null, .null])) H := at0
  replace hz : H.size = h0 + 8 := hz_12.trans hz
  replace sg_3 := tS.keptP (b := h0) (j := 0) 1 3 sg_3 rfl o_11 rfl
  replace sg_9 := tS.keptP (b := h0) (j := 0) 4 4 sg_9 rfl o_11 rfl
  clear o_11 hz_12
  refine lv_aload_n hx hb dX9_init_26 rfl (lv_at hl 0 rfl) ?_
  refine nw_new (ci := 3) (fs := [.null, .null, .null, .int 0, .int 0, .int 0]) (C := RX4) (T := TX4) (N := 6) (z := h0 + 8) hx hb hts in4 tyX4 tyX4_ok hown (hts (.classLink RX9 16 RX4) (List.mem_of_getElem? (i := 8) rfl)) (hts (.instantiable RX4 6) (List.mem_of_getElem? (i := 9) rfl)) (hts (.initialized RX4) (List.mem_of_getElem? (i := 10) rfl)) hK rfl df_X4 hS hz (Nat.le_add_right _ _) (Nat.le_of_ble_eq_true rfl) (Nat.le_of_ble_eq_true rfl) dX9_init_27 (fun H at_13 hz o_14 hS => ?_)
  replace at0 := va_at.keptA (b := h0) (z := 8) 0 at0 o_14 (Nat.le_of_ble_eq_true rfl)
  replace sg_3 := tS.keptA (b := h0) (z := 8) 1 3 sg_3 rfl o_14 (Nat.le_of_ble_eq_true rfl)
  replace sg_9 := tS.keptA (b := h0) (z := 8) 4 4 sg_9 rfl o_14 (Nat.le_of_ble_eq_true rfl)
  clear o_14
  have hz : H.size = h0 + 9 := hz
  refine lv_dup hx hb dX9_init_30 rfl ?_
  refine lv_pc (pc2 := 31) rfl ?_
  refine nw_call (z := h0 + 8) (tRun (va_runIN (As := []) (rest := [.ref (h0 + 8), .ref h0]) ⟨hx, hb, hml, hown, hts⟩ (cc_X4 l D cI cL cC (h0 + 8)) ⟨va_cnB 0 hts gX9_init_X4_init_n18 rfl rfl rfl (hE.2.1 _ (List.mem_of_getElem? (i := 1) rfl)) (hts (.initialized RX4) (List.mem_of_getElem? (i := 10) rfl)) (by decide +kernel) ⟨Nat.le_of_ble_eq_true rfl, Nat.le_of_ble_eq_true rfl⟩, rfl, (hts (.instanceMethod yX4_init) (List.mem_of_getElem? (i := 54) rfl))⟩ (cP_I hz at_13 hE) rfl rfl hl.1 rfl (lv_room (Nat.le_of_ble_eq_true rfl)) dX9_init_31 ⟨Nat.le_of_ble_eq_true rfl, Nat.le_of_ble_eq_true rfl⟩)) hS hz (by decide) (Nat.le_add_right _ _) (fun H locs sg_15 hz o_16 hS => ?_)
  replace at0 := va_at.keptA (b := h0) (z := 8) 0 at0 o_16 (Nat.le_of_ble_eq_true rfl)
  replace sg_3 := tS.keptA (b := h0) (z := 8) 1 3 sg_3 rfl o_16 (Nat.le_of_ble_eq_true rfl)
  replace sg_9 := tS.keptA (b := h0) (z := 8) 4 4 sg_9 rfl o_16 (Nat.le_of_ble_eq_true rfl)
  have hz : H.size = h0 + 12 := tSlen (n := 4) hz rfl
  clear o_16
  have sg_15 : tS D (gF cI cL cC 0 0 0 (fun _ => 0) (fun _ => 0)) [3, 12, 13, 14] (h0 + 8) H := sg_15
  refine nw_put (D := D) (ci := 8) (v := .ref (h0 + 8)) (ty := .object "RiverModel$Model") (C := RX9) (T := TX9) (N := 18) hx hb hts in9 tyX9 tyX9_ok nmX9 hown hK hS (Nat.le_refl _) at0 rfl 2 (by decide) (hts (.fieldLink RX9 23 "RiverModel" "draft" "LRiverModel$Model;") (List.mem_of_getElem? (i := 12) rfl)) (fun _ h9 => h9) rfl (by decide +kernel) rfl rfl (Nat.le_of_ble_eq_true rfl) dX9_init_34 (fun H locs at0 hz_18 o_17 hS => ?_)
  have at0 : va_at D vwCl (h0, .inr (8, [.ref (h0 + 1), .ref (h0 + 4), .ref (h0 + 8), .null, .int 0, .int 0, .null, .null, .null, .null, .null, .null, .null, .int 0, .null, .null, .null, .null])) H := at0
  replace hz : H.size = h0 + 12 := hz_18.trans hz
  replace sg_3 := tS.keptP (b := h0) (j := 0) 1 3 sg_3 rfl o_17 rfl
  replace sg_9 := tS.keptP (b := h0) (j := 0) 4 4 sg_9 rfl o_17 rfl
  replace sg_15 := tS.keptP (b := h0) (j := 0) 8 4 sg_15 rfl o_17 rfl
  clear o_17 hz_18
  refine lv_aload_n hx hb dX9_init_37 rfl (lv_at hl 0 rfl) ?_
  refine nw_new (ci := 3) (fs := [.null, .null, .null, .int 0, .int 0, .int 0]) (C := RX4) (T := TX4) (N := 6) (z := h0 + 12) hx hb hts in4 tyX4 tyX4_ok hown (hts (.classLink RX9 16 RX4) (List.mem_of_getElem? (i := 8) rfl)) (hts (.instantiable RX4 6) (List.mem_of_getElem? (i := 9) rfl)) (hts (.initialized RX4) (List.mem_of_getElem? (i := 10) rfl)) hK rfl df_X4 hS hz (Nat.le_add_right _ _) (Nat.le_of_ble_eq_true rfl) (Nat.le_of_ble_eq_true rfl) dX9_init_38 (fun H at_19 hz o_20 hS => ?_)
  replace at0 := va_at.keptA (b := h0) (z := 12) 0 at0 o_20 (Nat.le_of_ble_eq_true rfl)
  replace sg_3 := tS.keptA (b := h0) (z := 12) 1 3 sg_3 rfl o_20 (Nat.le_of_ble_eq_true rfl)
  replace sg_9 := tS.keptA (b := h0) (z := 12) 4 4 sg_9 rfl o_20 (Nat.le_of_ble_eq_true rfl)
  replace sg_15 := tS.keptA (b := h0) (z := 12) 8 4 sg_15 rfl o_20 (Nat.le_of_ble_eq_true rfl)
  clear o_20
  have hz : H.size = h0 + 13 := hz
  refine lv_dup hx hb dX9_init_41 rfl ?_
  refine nw_call (z := h0 + 12) (tRun (va_runIN (As := []) (rest := [.ref (h0 + 12), .ref h0]) ⟨hx, hb, hml, hown, hts⟩ (cc_X4 l D cI cL cC (h0 + 12)) ⟨va_cnB 0 hts gX9_init_X4_init_n18 rfl rfl rfl (hE.2.1 _ (List.mem_of_getElem? (i := 1) rfl)) (hts (.initialized RX4) (List.mem_of_getElem? (i := 10) rfl)) (by decide +kernel) ⟨Nat.le_of_ble_eq_true rfl, Nat.le_of_ble_eq_true rfl⟩, rfl, (hts (.instanceMethod yX4_init) (List.mem_of_getElem? (i := 54) rfl))⟩ (cP_I hz at_19 hE) rfl rfl hl.1 rfl (lv_room (Nat.le_of_ble_eq_true rfl)) dX9_init_42 ⟨Nat.le_of_ble_eq_true rfl, Nat.le_of_ble_eq_true rfl⟩)) hS hz (by decide) (Nat.le_add_right _ _) (fun H locs sg_21 hz o_22 hS => ?_)
  replace at0 := va_at.keptA (b := h0) (z := 12) 0 at0 o_22 (Nat.le_of_ble_eq_true rfl)
  replace sg_3 := tS.keptA (b := h0) (z := 12) 1 3 sg_3 rfl o_22 (Nat.le_of_ble_eq_true rfl)
  replace sg_9 := tS.keptA (b := h0) (z := 12) 4 4 sg_9 rfl o_22 (Nat.le_of_ble_eq_true rfl)
  replace sg_15 := tS.keptA (b := h0) (z := 12) 8 4 sg_15 rfl o_22 (Nat.le_of_ble_eq_true rfl)
  have hz : H.size = h0 + 16 := tSlen (n := 4) hz rfl
  clear o_22
  have sg_21 : tS D (gF cI cL cC 0 0 0 (fun _ => 0) (fun _ => 0)) [3, 12, 13, 14] (h0 + 12) H := sg_21
  refine nw_putF (D := D) (ci := 8) (v := .ref (h0 + 12)) (ty := .object "RiverModel$Model") (C := RX9) (T := TX9) (N := 18) hx hb hts in9 tyX9 tyX9_ok nmX9 hown hK hS (Nat.le_refl _) at0 rfl 3 (by decide) (hts (.fieldLink RX9 26 "RiverModel" "other" "LRiverModel$Model;") (List.mem_of_getElem? (i := 13) rfl)) (fun _ h9 => h9) rfl hin rfl (by decide +kernel) rfl rfl (Nat.le_of_ble_eq_true rfl) dX9_init_45 (fun H locs at0 hz_24 o_23 hS => ?_)
  have at0 : va_at D vwCl (h0, .inr (8, [.ref (h0 + 1), .ref (h0 + 4), .ref (h0 + 8), .ref (h0 + 12), .int 0, .int 0, .null, .null, .null, .null, .null, .null, .null, .int 0, .null, .null, .null, .null])) H := at0
  replace hz : H.size = h0 + 16 := hz_24.trans hz
  replace sg_3 := tS.keptP (b := h0) (j := 0) 1 3 sg_3 rfl o_23 rfl
  replace sg_9 := tS.keptP (b := h0) (j := 0) 4 4 sg_9 rfl o_23 rfl
  replace sg_15 := tS.keptP (b := h0) (j := 0) 8 4 sg_15 rfl o_23 rfl
  replace sg_21 := tS.keptP (b := h0) (j := 0) 12 4 sg_21 rfl o_23 rfl
  clear o_23 hz_24
  refine lv_aload_n hx hb dX9_init_48 rfl (lv_at hl 0 rfl) ?_
  refine lv_pc (pc2 := 49) rfl ?_
  refine lv_iconst (v := 0) hx hb dX9_init_49 (by decide) ?_
  refine nw_put (D := D) (ci := 8) (v := .int 0) (ty := .boolean) (C := RX9) (T := TX9) (N := 18) hx hb hts in9 tyX9 tyX9_ok nmX9 hown hK hS (Nat.le_refl _) at0 rfl 4 (by decide) (hts (.fieldLink RX9 29 "RiverModel" "isBuilt" "Z") (List.mem_of_getElem? (i := 14) rfl)) (fun _ h9 => h9) rfl (by decide +kernel) (by decide) (by decide) (Nat.le_of_ble_eq_true rfl) dX9_init_50 (fun H locs at0 hz_26 o_25 hS => ?_)
  have at0 : va_at D vwCl (h0, .inr (8, [.ref (h0 + 1), .ref (h0 + 4), .ref (h0 + 8), .ref (h0 + 12), .int 0, .int 0, .null, .null, .null, .null, .null, .null, .null, .int 0, .null, .null, .null, .null])) H := at0
  replace hz : H.size = h0 + 16 := hz_26.trans hz
  replace sg_3 := tS.keptP (b := h0) (j := 0) 1 3 sg_3 rfl o_25 rfl
  replace sg_9 := tS.keptP (b := h0) (j := 0) 4 4 sg_9 rfl o_25 rfl
  replace sg_15 := tS.keptP (b := h0) (j := 0) 8 4 sg_15 rfl o_25 rfl
  replace sg_21 := tS.keptP (b := h0) (j := 0) 12 4 sg_21 rfl o_25 rfl
  clear o_25 hz_26
  refine lv_aload_n hx hb dX9_init_53 rfl (lv_at hl 0 rfl) ?_
  refine lv_iconst (v := 0) hx hb dX9_init_54 (by decide) ?_
  refine nw_put (D := D) (ci := 8) (v := .int 0) (ty := .boolean) (C := RX9) (T := TX9) (N := 18) hx hb hts in9 tyX9 tyX9_ok nmX9 hown hK hS (Nat.le_refl _) at0 rfl 5 (by decide) (hts (.fieldLink RX9 33 "RiverModel" "isOtherLaid" "Z") (List.mem_of_getElem? (i := 15) rfl)) (fun _ h9 => h9) rfl (by decide +kernel) (by decide) (by decide) (Nat.le_of_ble_eq_true rfl) dX9_init_55 (fun H locs at0 hz_28 o_27 hS => ?_)
  have at0 : va_at D vwCl (h0, .inr (8, [.ref (h0 + 1), .ref (h0 + 4), .ref (h0 + 8), .ref (h0 + 12), .int 0, .int 0, .null, .null, .null, .null, .null, .null, .null, .int 0, .null, .null, .null, .null])) H := at0
  replace hz : H.size = h0 + 16 := hz_28.trans hz
  replace sg_3 := tS.keptP (b := h0) (j := 0) 1 3 sg_3 rfl o_27 rfl
  replace sg_9 := tS.keptP (b := h0) (j := 0) 4 4 sg_9 rfl o_27 rfl
  replace sg_15 := tS.keptP (b := h0) (j := 0) 8 4 sg_15 rfl o_27 rfl
  replace sg_21 := tS.keptP (b := h0) (j := 0) 12 4 sg_21 rfl o_27 rfl
  clear o_27 hz_28
  refine lv_aload_n hx hb dX9_init_58 rfl (lv_at hl 0 rfl) ?_
  refine nw_new (ci := 5) (fs := [.null, .null]) (C := RX6) (T := TX6) (N := 2) (z := h0 + 16) hx hb hts in6 tyX6 tyX6_ok hown (hts (.classLink RX9 36 RX6) (List.mem_of_getElem? (i := 16) rfl)) (hts (.instantiable RX6 2) (List.mem_of_getElem? (i := 17) rfl)) (hts (.initialized RX6) (List.mem_of_getElem? (i := 18) rfl)) hK rfl df_X6 hS hz (Nat.le_add_right _ _) (Nat.le_of_ble_eq_true rfl) (Nat.le_of_ble_eq_true rfl) dX9_init_59 (fun H at_29 hz o_30 hS => ?_)
  replace at0 := va_at.keptA (b := h0) (z := 16) 0 at0 o_30 (Nat.le_of_ble_eq_true rfl)
  replace sg_3 := tS.keptA (b := h0) (z := 16) 1 3 sg_3 rfl o_30 (Nat.le_of_ble_eq_true rfl)
  replace sg_9 := tS.keptA (b := h0) (z := 16) 4 4 sg_9 rfl o_30 (Nat.le_of_ble_eq_true rfl)
  replace sg_15 := tS.keptA (b := h0) (z := 16) 8 4 sg_15 rfl o_30 (Nat.le_of_ble_eq_true rfl)
  replace sg_21 := tS.keptA (b := h0) (z := 16) 12 4 sg_21 rfl o_30 (Nat.le_of_ble_eq_true rfl)
  clear o_30
  have hz : H.size = h0 + 17 := hz
  refine lv_dup hx hb dX9_init_62 rfl ?_
  refine lv_pc (pc2 := 63) rfl ?_
  refine nw_call (z := h0 + 16) (tRun (va_runI (As := []) (rest := [.ref (h0 + 16), .ref h0]) ⟨hx, hb, hml, hown, hts⟩ (cc_X6 l D cI cL cC (h0 + 16)) (cwI 0 hts gX9_init_X6_init rfl rfl rfl (hts (.initialized RX6) (List.mem_of_getElem? (i := 18) rfl)) (hts (.methodLink RX9 38 yX6_init) (List.mem_of_getElem? (i := 63) rfl)) (hts (.instanceMethod yX6_init) (List.mem_of_getElem? (i := 64) rfl)) rfl (by decide +kernel) ⟨Nat.le_of_ble_eq_true rfl, Nat.le_of_ble_eq_true rfl⟩) (cP_I hz at_29 hE) rfl rfl hl.1 rfl (lv_room (Nat.le_of_ble_eq_true rfl)) dX9_init_63 ⟨Nat.le_of_ble_eq_true rfl, Nat.le_of_ble_eq_true rfl⟩)) hS hz (by decide) (Nat.le_add_right _ _) (fun H locs sg_31 hz o_32 hS => ?_)
  replace at0 := va_at.keptA (b := h0) (z := 16) 0 at0 o_32 (Nat.le_of_ble_eq_true rfl)
  replace sg_3 := tS.keptA (b := h0) (z := 16) 1 3 sg_3 rfl o_32 (Nat.le_of_ble_eq_true rfl)
  replace sg_9 := tS.keptA (b := h0) (z := 16) 4 4 sg_9 rfl o_32 (Nat.le_of_ble_eq_true rfl)
  replace sg_15 := tS.keptA (b := h0) (z := 16) 8 4 sg_15 rfl o_32 (Nat.le_of_ble_eq_true rfl)
  replace sg_21 := tS.keptA (b := h0) (z := 16) 12 4 sg_21 rfl o_32 (Nat.le_of_ble_eq_true rfl)
  have hz : H.size = h0 + 19 := tSlen (n := 3) hz rfl
  clear o_32
  have sg_31 : tS D (gF cI cL cC 0 0 0 (fun _ => 0) (fun _ => 0)) [4, 15, 16] (h0 + 16) H := sg_31
  refine nw_putF (D := D) (ci := 8) (v := .ref (h0 + 16)) (ty := .object "RiverModel$Sky") (C := RX9) (T := TX9) (N := 18) hx hb hts in9 tyX9 tyX9_ok nmX9 hown hK hS (Nat.le_refl _) at0 rfl 6 (by decide) (hts (.fieldLink RX9 39 "RiverModel" "skyA" "LRiverModel$Sky;") (List.mem_of_getElem? (i := 19) rfl)) (fun _ h9 => h9) rfl hin rfl (by decide +kernel) rfl rfl (Nat.le_of_ble_eq_true rfl) dX9_init_66 (fun H locs at0 hz_34 o_33 hS => ?_)
  have at0 : va_at D vwCl (h0, .inr (8, [.ref (h0 + 1), .ref (h0 + 4), .ref (h0 + 8), .ref (h0 + 12), .int 0, .int 0, .ref (h0 + 16), .null, .null, .null, .null, .null, .null, .int 0, .null, .null, .null, .null])) H := at0
  replace hz : H.size = h0 + 19 := hz_34.trans hz
  replace sg_3 := tS.keptP (b := h0) (j := 0) 1 3 sg_3 rfl o_33 rfl
  replace sg_9 := tS.keptP (b := h0) (j := 0) 4 4 sg_9 rfl o_33 rfl
  replace sg_15 := tS.keptP (b := h0) (j := 0) 8 4 sg_15 rfl o_33 rfl
  replace sg_21 := tS.keptP (b := h0) (j := 0) 12 4 sg_21 rfl o_33 rfl
  replace sg_31 := tS.keptP (b := h0) (j := 0) 16 3 sg_31 rfl o_33 rfl
  clear o_33 hz_34
  refine lv_aload_n hx hb dX9_init_69 rfl (lv_at hl 0 rfl) ?_
  refine nw_new (ci := 5) (fs := [.null, .null]) (C := RX6) (T := TX6) (N := 2) (z := h0 + 19) hx hb hts in6 tyX6 tyX6_ok hown (hts (.classLink RX9 36 RX6) (List.mem_of_getElem? (i := 16) rfl)) (hts (.instantiable RX6 2) (List.mem_of_getElem? (i := 17) rfl)) (hts (.initialized RX6) (List.mem_of_getElem? (i := 18) rfl)) hK rfl df_X6 hS hz (Nat.le_add_right _ _) (Nat.le_of_ble_eq_true rfl) (Nat.le_of_ble_eq_true rfl) dX9_init_70 (fun H at_35 hz o_36 hS => ?_)
  replace at0 := va_at.keptA (b := h0) (z := 19) 0 at0 o_36 (Nat.le_of_ble_eq_true rfl)
  replace sg_3 := tS.keptA (b := h0) (z := 19) 1 3 sg_3 rfl o_36 (Nat.le_of_ble_eq_true rfl)
  replace sg_9 := tS.keptA (b := h0) (z := 19) 4 4 sg_9 rfl o_36 (Nat.le_of_ble_eq_true rfl)
  replace sg_15 := tS.keptA (b := h0) (z := 19) 8 4 sg_15 rfl o_36 (Nat.le_of_ble_eq_true rfl)
  replace sg_21 := tS.keptA (b := h0) (z := 19) 12 4 sg_21 rfl o_36 (Nat.le_of_ble_eq_true rfl)
  replace sg_31 := tS.keptA (b := h0) (z := 19) 16 3 sg_31 rfl o_36 (Nat.le_of_ble_eq_true rfl)
  clear o_36
  have hz : H.size = h0 + 20 := hz
  refine lv_dup hx hb dX9_init_73 rfl ?_
  refine nw_call (z := h0 + 19) (tRun (va_runI (As := []) (rest := [.ref (h0 + 19), .ref h0]) ⟨hx, hb, hml, hown, hts⟩ (cc_X6 l D cI cL cC (h0 + 19)) (cwI 0 hts gX9_init_X6_init rfl rfl rfl (hts (.initialized RX6) (List.mem_of_getElem? (i := 18) rfl)) (hts (.methodLink RX9 38 yX6_init) (List.mem_of_getElem? (i := 63) rfl)) (hts (.instanceMethod yX6_init) (List.mem_of_getElem? (i := 64) rfl)) rfl (by decide +kernel) ⟨Nat.le_of_ble_eq_true rfl, Nat.le_of_ble_eq_true rfl⟩) (cP_I hz at_35 hE) rfl rfl hl.1 rfl (lv_room (Nat.le_of_ble_eq_true rfl)) dX9_init_74 ⟨Nat.le_of_ble_eq_true rfl, Nat.le_of_ble_eq_true rfl⟩)) hS hz (by decide) (Nat.le_add_right _ _) (fun H locs sg_37 hz o_38 hS => ?_)
  replace at0 := va_at.keptA (b := h0) (z := 19) 0 at0 o_38 (Nat.le_of_ble_eq_true rfl)
  replace sg_3 := tS.keptA (b := h0) (z := 19) 1 3 sg_3 rfl o_38 (Nat.le_of_ble_eq_true rfl)
  replace sg_9 := tS.keptA (b := h0) (z := 19) 4 4 sg_9 rfl o_38 (Nat.le_of_ble_eq_true rfl)
  replace sg_15 := tS.keptA (b := h0) (z := 19) 8 4 sg_15 rfl o_38 (Nat.le_of_ble_eq_true rfl)
  replace sg_21 := tS.keptA (b := h0) (z := 19) 12 4 sg_21 rfl o_38 (Nat.le_of_ble_eq_true rfl)
  replace sg_31 := tS.keptA (b := h0) (z := 19) 16 3 sg_31 rfl o_38 (Nat.le_of_ble_eq_true rfl)
  have hz : H.size = h0 + 22 := tSlen (n := 3) hz rfl
  clear o_38
  have sg_37 : tS D (gF cI cL cC 0 0 0 (fun _ => 0) (fun _ => 0)) [4, 15, 16] (h0 + 19) H := sg_37
  refine nw_putF (D := D) (ci := 8) (v := .ref (h0 + 19)) (ty := .object "RiverModel$Sky") (C := RX9) (T := TX9) (N := 18) hx hb hts in9 tyX9 tyX9_ok nmX9 hown hK hS (Nat.le_refl _) at0 rfl 7 (by decide) (hts (.fieldLink RX9 43 "RiverModel" "skyB" "LRiverModel$Sky;") (List.mem_of_getElem? (i := 20) rfl)) (fun _ h9 => h9) rfl hin rfl (by decide +kernel) rfl rfl (Nat.le_of_ble_eq_true rfl) dX9_init_77 (fun H locs at0 hz_40 o_39 hS => ?_)
  have at0 : va_at D vwCl (h0, .inr (8, [.ref (h0 + 1), .ref (h0 + 4), .ref (h0 + 8), .ref (h0 + 12), .int 0, .int 0, .ref (h0 + 16), .ref (h0 + 19), .null, .null, .null, .null, .null, .int 0, .null, .null, .null, .null])) H := at0
  replace hz : H.size = h0 + 22 := hz_40.trans hz
  replace sg_3 := tS.keptP (b := h0) (j := 0) 1 3 sg_3 rfl o_39 rfl
  replace sg_9 := tS.keptP (b := h0) (j := 0) 4 4 sg_9 rfl o_39 rfl
  replace sg_15 := tS.keptP (b := h0) (j := 0) 8 4 sg_15 rfl o_39 rfl
  replace sg_21 := tS.keptP (b := h0) (j := 0) 12 4 sg_21 rfl o_39 rfl
  replace sg_31 := tS.keptP (b := h0) (j := 0) 16 3 sg_31 rfl o_39 rfl
  replace sg_37 := tS.keptP (b := h0) (j := 0) 19 3 sg_37 rfl o_39 rfl
  clear o_39 hz_40
  refine lv_aload_n hx hb dX9_init_80 rfl (lv_at hl 0 rfl) ?_
  refine lv_pc (pc2 := 81) rfl ?_
  refine lv_bipush (v := 16) hx hb dX9_init_81 (by decide) ?_
  refine nw_newI (N := 16) (z := h0 + 22) hx hb (hts (.arrayClass .int) (List.mem_of_getElem? (i := 21) rfl)) hK hS hz (Nat.le_add_right _ _) (by decide) (by decide) (by decide) (Nat.le_of_ble_eq_true rfl) (Nat.le_of_ble_eq_true rfl) dX9_init_83 (fun H at_41 hz o_42 hS => ?_)
  replace at0 := va_at.keptA (b := h0) (z := 22) 0 at0 o_42 (Nat.le_of_ble_eq_true rfl)
  replace sg_3 := tS.keptA (b := h0) (z := 22) 1 3 sg_3 rfl o_42 (Nat.le_of_ble_eq_true rfl)
  replace sg_9 := tS.keptA (b := h0) (z := 22) 4 4 sg_9 rfl o_42 (Nat.le_of_ble_eq_true rfl)
  replace sg_15 := tS.keptA (b := h0) (z := 22) 8 4 sg_15 rfl o_42 (Nat.le_of_ble_eq_true rfl)
  replace sg_21 := tS.keptA (b := h0) (z := 22) 12 4 sg_21 rfl o_42 (Nat.le_of_ble_eq_true rfl)
  replace sg_31 := tS.keptA (b := h0) (z := 22) 16 3 sg_31 rfl o_42 (Nat.le_of_ble_eq_true rfl)
  replace sg_37 := tS.keptA (b := h0) (z := 22) 19 3 sg_37 rfl o_42 (Nat.le_of_ble_eq_true rfl)
  clear o_42
  have hz : H.size = h0 + 23 := hz
  refine nw_putF (D := D) (ci := 8) (v := .ref (h0 + 22)) (ty := .array .int) (C := RX9) (T := TX9) (N := 18) hx hb hts in9 tyX9 tyX9_ok nmX9 hown hK hS (Nat.le_refl _) at0 rfl 8 (by decide) (hts (.fieldLink RX9 46 "RiverModel" "startsB" "[I") (List.mem_of_getElem? (i := 22) rfl)) (fun _ h9 => h9) rfl hin rfl (by decide +kernel) rfl rfl (Nat.le_of_ble_eq_true rfl) dX9_init_85 (fun H locs at0 hz_44 o_43 hS => ?_)
  have at0 : va_at D vwCl (h0, .inr (8, [.ref (h0 + 1), .ref (h0 + 4), .ref (h0 + 8), .ref (h0 + 12), .int 0, .int 0, .ref (h0 + 16), .ref (h0 + 19), .ref (h0 + 22), .null, .null, .null, .null, .int 0, .null, .null, .null, .null])) H := at0
  replace hz : H.size = h0 + 23 := hz_44.trans hz
  replace sg_3 := tS.keptP (b := h0) (j := 0) 1 3 sg_3 rfl o_43 rfl
  replace sg_9 := tS.keptP (b := h0) (j := 0) 4 4 sg_9 rfl o_43 rfl
  replace sg_15 := tS.keptP (b := h0) (j := 0) 8 4 sg_15 rfl o_43 rfl
  replace sg_21 := tS.keptP (b := h0) (j := 0) 12 4 sg_21 rfl o_43 rfl
  replace sg_31 := tS.keptP (b := h0) (j := 0) 16 3 sg_31 rfl o_43 rfl
  replace sg_37 := tS.keptP (b := h0) (j := 0) 19 3 sg_37 rfl o_43 rfl
  replace at_41 := va_at.keptP (b := h0) (j := 0) 22 at_41 o_43 rfl
  clear o_43 hz_44
  refine lv_aload_n hx hb dX9_init_88 rfl (lv_at hl 0 rfl) ?_
  refine nw_new (ci := 0) (fs := [.null, .null, .null, .null, .long 0, .long 0, .long 0, .int 0]) (C := RX0) (T := TX0) (N := 8) (z := h0 + 23) hx hb hts in0 tyX0 tyX0_ok hown (hts (.classLink RX9 50 RX0) (List.mem_of_getElem? (i := 23) rfl)) (hts (.instantiable RX0 8) (List.mem_of_getElem? (i := 24) rfl)) (hts (.initialized RX0) (List.mem_of_getElem? (i := 25) rfl)) hK rfl df_X0 hS hz (Nat.le_add_right _ _) (Nat.le_of_ble_eq_true rfl) (Nat.le_of_ble_eq_true rfl) dX9_init_89 (fun H at_45 hz o_46 hS => ?_)
  replace at0 := va_at.keptA (b := h0) (z := 23) 0 at0 o_46 (Nat.le_of_ble_eq_true rfl)
  replace sg_3 := tS.keptA (b := h0) (z := 23) 1 3 sg_3 rfl o_46 (Nat.le_of_ble_eq_true rfl)
  replace sg_9 := tS.keptA (b := h0) (z := 23) 4 4 sg_9 rfl o_46 (Nat.le_of_ble_eq_true rfl)
  replace sg_15 := tS.keptA (b := h0) (z := 23) 8 4 sg_15 rfl o_46 (Nat.le_of_ble_eq_true rfl)
  replace sg_21 := tS.keptA (b := h0) (z := 23) 12 4 sg_21 rfl o_46 (Nat.le_of_ble_eq_true rfl)
  replace sg_31 := tS.keptA (b := h0) (z := 23) 16 3 sg_31 rfl o_46 (Nat.le_of_ble_eq_true rfl)
  replace sg_37 := tS.keptA (b := h0) (z := 23) 19 3 sg_37 rfl o_46 (Nat.le_of_ble_eq_true rfl)
  replace at_41 := va_at.keptA (b := h0) (z := 23) 22 at_41 o_46 (Nat.le_of_ble_eq_true rfl)
  clear o_46
  have hz : H.size = h0 + 24 := hz
  refine lv_dup hx hb dX9_init_92 rfl ?_
  refine nw_call (z := h0 + 23) (tRun (va_runIN (As := []) (rest := [.ref (h0 + 23), .ref h0]) ⟨hx, hb, hml, hown, hts⟩ (cc_X0 l D cI cL cC (h0 + 23)) ⟨va_cnB 0 hts gX9_init_X0_init_n52 rfl rfl rfl (hE.2.1 _ (List.mem_of_getElem? (i := 2) rfl)) (hts (.initialized RX0) (List.mem_of_getElem? (i := 25) rfl)) (by decide +kernel) ⟨Nat.le_of_ble_eq_true rfl, Nat.le_of_ble_eq_true rfl⟩, rfl, (hts (.instanceMethod yX0_init) (List.mem_of_getElem? (i := 73) rfl))⟩ (cP_I hz at_45 hE) rfl rfl hl.1 rfl (lv_room (Nat.le_of_ble_eq_true rfl)) dX9_init_93 ⟨Nat.le_of_ble_eq_true rfl, Nat.le_of_ble_eq_true rfl⟩)) hS hz (by decide) (Nat.le_add_right _ _) (fun H locs sg_47 hz o_48 hS => ?_)
  replace at0 := va_at.keptA (b := h0) (z := 23) 0 at0 o_48 (Nat.le_of_ble_eq_true rfl)
  replace sg_3 := tS.keptA (b := h0) (z := 23) 1 3 sg_3 rfl o_48 (Nat.le_of_ble_eq_true rfl)
  replace sg_9 := tS.keptA (b := h0) (z := 23) 4 4 sg_9 rfl o_48 (Nat.le_of_ble_eq_true rfl)
  replace sg_15 := tS.keptA (b := h0) (z := 23) 8 4 sg_15 rfl o_48 (Nat.le_of_ble_eq_true rfl)
  replace sg_21 := tS.keptA (b := h0) (z := 23) 12 4 sg_21 rfl o_48 (Nat.le_of_ble_eq_true rfl)
  replace sg_31 := tS.keptA (b := h0) (z := 23) 16 3 sg_31 rfl o_48 (Nat.le_of_ble_eq_true rfl)
  replace sg_37 := tS.keptA (b := h0) (z := 23) 19 3 sg_37 rfl o_48 (Nat.le_of_ble_eq_true rfl)
  replace at_41 := va_at.keptA (b := h0) (z := 23) 22 at_41 o_48 (Nat.le_of_ble_eq_true rfl)
  have hz : H.size = h0 + 28 := tSlen (n := 5) hz rfl
  clear o_48
  have sg_47 : tS D (gF cI cL cC 0 0 0 (fun _ => 0) (fun _ => 0)) [5, 17, 18, 19, 20] (h0 + 23) H := sg_47
  refine nw_putF (D := D) (ci := 8) (v := .ref (h0 + 23)) (ty := .object "RiverModel$Course") (C := RX9) (T := TX9) (N := 18) hx hb hts in9 tyX9 tyX9_ok nmX9 hown hK hS (Nat.le_refl _) at0 rfl 9 (by decide) (hts (.fieldLink RX9 53 "RiverModel" "now" "LRiverModel$Course;") (List.mem_of_getElem? (i := 26) rfl)) (fun _ h9 => h9) rfl hin rfl (by decide +kernel) rfl rfl (Nat.le_of_ble_eq_true rfl) dX9_init_96 (fun H locs at0 hz_50 o_49 hS => ?_)
  have at0 : va_at D vwCl (h0, .inr (8, [.ref (h0 + 1), .ref (h0 + 4), .ref (h0 + 8), .ref (h0 + 12), .int 0, .int 0, .ref (h0 + 16), .ref (h0 + 19), .ref (h0 + 22), .ref (h0 + 23), .null, .null, .null, .int 0, .null, .null, .null, .null])) H := at0
  replace hz : H.size = h0 + 28 := hz_50.trans hz
  replace sg_3 := tS.keptP (b := h0) (j := 0) 1 3 sg_3 rfl o_49 rfl
  replace sg_9 := tS.keptP (b := h0) (j := 0) 4 4 sg_9 rfl o_49 rfl
  replace sg_15 := tS.keptP (b := h0) (j := 0) 8 4 sg_15 rfl o_49 rfl
  replace sg_21 := tS.keptP (b := h0) (j := 0) 12 4 sg_21 rfl o_49 rfl
  replace sg_31 := tS.keptP (b := h0) (j := 0) 16 3 sg_31 rfl o_49 rfl
  replace sg_37 := tS.keptP (b := h0) (j := 0) 19 3 sg_37 rfl o_49 rfl
  replace at_41 := va_at.keptP (b := h0) (j := 0) 22 at_41 o_49 rfl
  replace sg_47 := tS.keptP (b := h0) (j := 0) 23 5 sg_47 rfl o_49 rfl
  clear o_49 hz_50
  refine lv_pc (pc2 := 99) rfl ?_
  refine lv_aload_n hx hb dX9_init_99 rfl (lv_at hl 0 rfl) ?_
  refine nw_new (ci := 0) (fs := [.null, .null, .null, .null, .long 0, .long 0, .long 0, .int 0]) (C := RX0) (T := TX0) (N := 8) (z := h0 + 28) hx hb hts in0 tyX0 tyX0_ok hown (hts (.classLink RX9 50 RX0) (List.mem_of_getElem? (i := 23) rfl)) (hts (.instantiable RX0 8) (List.mem_of_getElem? (i := 24) rfl)) (hts (.initialized RX0) (List.mem_of_getElem? (i := 25) rfl)) hK rfl df_X0 hS hz (Nat.le_add_right _ _) (Nat.le_of_ble_eq_true rfl) (Nat.le_of_ble_eq_true rfl) dX9_init_100 (fun H at_51 hz o_52 hS => ?_)
  replace at0 := va_at.keptA (b := h0) (z := 28) 0 at0 o_52 (Nat.le_of_ble_eq_true rfl)
  replace sg_3 := tS.keptA (b := h0) (z := 28) 1 3 sg_3 rfl o_52 (Nat.le_of_ble_eq_true rfl)
  replace sg_9 := tS.keptA (b := h0) (z := 28) 4 4 sg_9 rfl o_52 (Nat.le_of_ble_eq_true rfl)
  replace sg_15 := tS.keptA (b := h0) (z := 28) 8 4 sg_15 rfl o_52 (Nat.le_of_ble_eq_true rfl)
  replace sg_21 := tS.keptA (b := h0) (z := 28) 12 4 sg_21 rfl o_52 (Nat.le_of_ble_eq_true rfl)
  replace sg_31 := tS.keptA (b := h0) (z := 28) 16 3 sg_31 rfl o_52 (Nat.le_of_ble_eq_true rfl)
  replace sg_37 := tS.keptA (b := h0) (z := 28) 19 3 sg_37 rfl o_52 (Nat.le_of_ble_eq_true rfl)
  replace at_41 := va_at.keptA (b := h0) (z := 28) 22 at_41 o_52 (Nat.le_of_ble_eq_true rfl)
  replace sg_47 := tS.keptA (b := h0) (z := 28) 23 5 sg_47 rfl o_52 (Nat.le_of_ble_eq_true rfl)
  clear o_52
  have hz : H.size = h0 + 29 := hz
  refine lv_dup hx hb dX9_init_103 rfl ?_
  refine nw_call (z := h0 + 28) (tRun (va_runIN (As := []) (rest := [.ref (h0 + 28), .ref h0]) ⟨hx, hb, hml, hown, hts⟩ (cc_X0 l D cI cL cC (h0 + 28)) ⟨va_cnB 0 hts gX9_init_X0_init_n52 rfl rfl rfl (hE.2.1 _ (List.mem_of_getElem? (i := 2) rfl)) (hts (.initialized RX0) (List.mem_of_getElem? (i := 25) rfl)) (by decide +kernel) ⟨Nat.le_of_ble_eq_true rfl, Nat.le_of_ble_eq_true rfl⟩, rfl, (hts (.instanceMethod yX0_init) (List.mem_of_getElem? (i := 73) rfl))⟩ (cP_I hz at_51 hE) rfl rfl hl.1 rfl (lv_room (Nat.le_of_ble_eq_true rfl)) dX9_init_104 ⟨Nat.le_of_ble_eq_true rfl, Nat.le_of_ble_eq_true rfl⟩)) hS hz (by decide) (Nat.le_add_right _ _) (fun H locs sg_53 hz o_54 hS => ?_)
  replace at0 := va_at.keptA (b := h0) (z := 28) 0 at0 o_54 (Nat.le_of_ble_eq_true rfl)
  replace sg_3 := tS.keptA (b := h0) (z := 28) 1 3 sg_3 rfl o_54 (Nat.le_of_ble_eq_true rfl)
  replace sg_9 := tS.keptA (b := h0) (z := 28) 4 4 sg_9 rfl o_54 (Nat.le_of_ble_eq_true rfl)
  replace sg_15 := tS.keptA (b := h0) (z := 28) 8 4 sg_15 rfl o_54 (Nat.le_of_ble_eq_true rfl)
  replace sg_21 := tS.keptA (b := h0) (z := 28) 12 4 sg_21 rfl o_54 (Nat.le_of_ble_eq_true rfl)
  replace sg_31 := tS.keptA (b := h0) (z := 28) 16 3 sg_31 rfl o_54 (Nat.le_of_ble_eq_true rfl)
  replace sg_37 := tS.keptA (b := h0) (z := 28) 19 3 sg_37 rfl o_54 (Nat.le_of_ble_eq_true rfl)
  replace at_41 := va_at.keptA (b := h0) (z := 28) 22 at_41 o_54 (Nat.le_of_ble_eq_true rfl)
  replace sg_47 := tS.keptA (b := h0) (z := 28) 23 5 sg_47 rfl o_54 (Nat.le_of_ble_eq_true rfl)
  have hz : H.size = h0 + 33 := tSlen (n := 5) hz rfl
  clear o_54
  have sg_53 : tS D (gF cI cL cC 0 0 0 (fun _ => 0) (fun _ => 0)) [5, 17, 18, 19, 20] (h0 + 28) H := sg_53
  refine nw_putF (D := D) (ci := 8) (v := .ref (h0 + 28)) (ty := .object "RiverModel$Course") (C := RX9) (T := TX9) (N := 18) hx hb hts in9 tyX9 tyX9_ok nmX9 hown hK hS (Nat.le_refl _) at0 rfl 10 (by decide) (hts (.fieldLink RX9 57 "RiverModel" "trial" "LRiverModel$Course;") (List.mem_of_getElem? (i := 27) rfl)) (fun _ h9 => h9) rfl hin rfl (by decide +kernel) rfl rfl (Nat.le_of_ble_eq_true rfl) dX9_init_107 (fun H locs at0 hz_56 o_55 hS => ?_)
  have at0 : va_at D vwCl (h0, .inr (8, [.ref (h0 + 1), .ref (h0 + 4), .ref (h0 + 8), .ref (h0 + 12), .int 0, .int 0, .ref (h0 + 16), .ref (h0 + 19), .ref (h0 + 22), .ref (h0 + 23), .ref (h0 + 28), .null, .null, .int 0, .null, .null, .null, .null])) H := at0
  replace hz : H.size = h0 + 33 := hz_56.trans hz
  replace sg_3 := tS.keptP (b := h0) (j := 0) 1 3 sg_3 rfl o_55 rfl
  replace sg_9 := tS.keptP (b := h0) (j := 0) 4 4 sg_9 rfl o_55 rfl
  replace sg_15 := tS.keptP (b := h0) (j := 0) 8 4 sg_15 rfl o_55 rfl
  replace sg_21 := tS.keptP (b := h0) (j := 0) 12 4 sg_21 rfl o_55 rfl
  replace sg_31 := tS.keptP (b := h0) (j := 0) 16 3 sg_31 rfl o_55 rfl
  replace sg_37 := tS.keptP (b := h0) (j := 0) 19 3 sg_37 rfl o_55 rfl
  replace at_41 := va_at.keptP (b := h0) (j := 0) 22 at_41 o_55 rfl
  replace sg_47 := tS.keptP (b := h0) (j := 0) 23 5 sg_47 rfl o_55 rfl
  replace sg_53 := tS.keptP (b := h0) (j := 0) 28 5 sg_53 rfl o_55 rfl
  clear o_55 hz_56
  refine lv_aload_n hx hb dX9_init_110 rfl (lv_at hl 0 rfl) ?_
  refine nw_new (ci := 0) (fs := [.null, .null, .null, .null, .long 0, .long 0, .long 0, .int 0]) (C := RX0) (T := TX0) (N := 8) (z := h0 + 33) hx hb hts in0 tyX0 tyX0_ok hown (hts (.classLink RX9 50 RX0) (List.mem_of_getElem? (i := 23) rfl)) (hts (.instantiable RX0 8) (List.mem_of_getElem? (i := 24) rfl)) (hts (.initialized RX0) (List.mem_of_getElem? (i := 25) rfl)) hK rfl df_X0 hS hz (Nat.le_add_right _ _) (Nat.le_of_ble_eq_true rfl) (Nat.le_of_ble_eq_true rfl) dX9_init_111 (fun H at_57 hz o_58 hS => ?_)
  replace at0 := va_at.keptA (b := h0) (z := 33) 0 at0 o_58 (Nat.le_of_ble_eq_true rfl)
  replace sg_3 := tS.keptA (b := h0) (z := 33) 1 3 sg_3 rfl o_58 (Nat.le_of_ble_eq_true rfl)
  replace sg_9 := tS.keptA (b := h0) (z := 33) 4 4 sg_9 rfl o_58 (Nat.le_of_ble_eq_true rfl)
  replace sg_15 := tS.keptA (b := h0) (z := 33) 8 4 sg_15 rfl o_58 (Nat.le_of_ble_eq_true rfl)
  replace sg_21 := tS.keptA (b := h0) (z := 33) 12 4 sg_21 rfl o_58 (Nat.le_of_ble_eq_true rfl)
  replace sg_31 := tS.keptA (b := h0) (z := 33) 16 3 sg_31 rfl o_58 (Nat.le_of_ble_eq_true rfl)
  replace sg_37 := tS.keptA (b := h0) (z := 33) 19 3 sg_37 rfl o_58 (Nat.le_of_ble_eq_true rfl)
  replace at_41 := va_at.keptA (b := h0) (z := 33) 22 at_41 o_58 (Nat.le_of_ble_eq_true rfl)
  replace sg_47 := tS.keptA (b := h0) (z := 33) 23 5 sg_47 rfl o_58 (Nat.le_of_ble_eq_true rfl)
  replace sg_53 := tS.keptA (b := h0) (z := 33) 28 5 sg_53 rfl o_58 (Nat.le_of_ble_eq_true rfl)
  clear o_58
  have hz : H.size = h0 + 34 := hz
  refine lv_dup hx hb dX9_init_114 rfl ?_
  refine lv_pc (pc2 := 115) rfl ?_
  refine nw_call (z := h0 + 33) (tRun (va_runIN (As := []) (rest := [.ref (h0 + 33), .ref h0]) ⟨hx, hb, hml, hown, hts⟩ (cc_X0 l D cI cL cC (h0 + 33)) ⟨va_cnB 0 hts gX9_init_X0_init_n52 rfl rfl rfl (hE.2.1 _ (List.mem_of_getElem? (i := 2) rfl)) (hts (.initialized RX0) (List.mem_of_getElem? (i := 25) rfl)) (by decide +kernel) ⟨Nat.le_of_ble_eq_true rfl, Nat.le_of_ble_eq_true rfl⟩, rfl, (hts (.instanceMethod yX0_init) (List.mem_of_getElem? (i := 73) rfl))⟩ (cP_I hz at_57 hE) rfl rfl hl.1 rfl (lv_room (Nat.le_of_ble_eq_true rfl)) dX9_init_115 ⟨Nat.le_of_ble_eq_true rfl, Nat.le_of_ble_eq_true rfl⟩)) hS hz (by decide) (Nat.le_add_right _ _) (fun H locs sg_59 hz o_60 hS => ?_)
  replace at0 := va_at.keptA (b := h0) (z := 33) 0 at0 o_60 (Nat.le_of_ble_eq_true rfl)
  replace sg_3 := tS.keptA (b := h0) (z := 33) 1 3 sg_3 rfl o_60 (Nat.le_of_ble_eq_true rfl)
  replace sg_9 := tS.keptA (b := h0) (z := 33) 4 4 sg_9 rfl o_60 (Nat.le_of_ble_eq_true rfl)
  replace sg_15 := tS.keptA (b := h0) (z := 33) 8 4 sg_15 rfl o_60 (Nat.le_of_ble_eq_true rfl)
  replace sg_21 := tS.keptA (b := h0) (z := 33) 12 4 sg_21 rfl o_60 (Nat.le_of_ble_eq_true rfl)
  replace sg_31 := tS.keptA (b := h0) (z := 33) 16 3 sg_31 rfl o_60 (Nat.le_of_ble_eq_true rfl)
  replace sg_37 := tS.keptA (b := h0) (z := 33) 19 3 sg_37 rfl o_60 (Nat.le_of_ble_eq_true rfl)
  replace at_41 := va_at.keptA (b := h0) (z := 33) 22 at_41 o_60 (Nat.le_of_ble_eq_true rfl)
  replace sg_47 := tS.keptA (b := h0) (z := 33) 23 5 sg_47 rfl o_60 (Nat.le_of_ble_eq_true rfl)
  replace sg_53 := tS.keptA (b := h0) (z := 33) 28 5 sg_53 rfl o_60 (Nat.le_of_ble_eq_true rfl)
  have hz : H.size = h0 + 38 := tSlen (n := 5) hz rfl
  clear o_60
  have sg_59 : tS D (gF cI cL cC 0 0 0 (fun _ => 0) (fun _ => 0)) [5, 17, 18, 19, 20] (h0 + 33) H := sg_59
  refine nw_putF (D := D) (ci := 8) (v := .ref (h0 + 33)) (ty := .object "RiverModel$Course") (C := RX9) (T := TX9) (N := 18) hx hb hts in9 tyX9 tyX9_ok nmX9 hown hK hS (Nat.le_refl _) at0 rfl 11 (by decide) (hts (.fieldLink RX9 60 "RiverModel" "second" "LRiverModel$Course;") (List.mem_of_getElem? (i := 28) rfl)) (fun _ h9 => h9) rfl hin rfl (by decide +kernel) rfl rfl (Nat.le_of_ble_eq_true rfl) dX9_init_118 (fun H locs at0 hz_62 o_61 hS => ?_)
  have at0 : va_at D vwCl (h0, .inr (8, [.ref (h0 + 1), .ref (h0 + 4), .ref (h0 + 8), .ref (h0 + 12), .int 0, .int 0, .ref (h0 + 16), .ref (h0 + 19), .ref (h0 + 22), .ref (h0 + 23), .ref (h0 + 28), .ref (h0 + 33), .null, .int 0, .null, .null, .null, .null])) H := at0
  replace hz : H.size = h0 + 38 := hz_62.trans hz
  replace sg_3 := tS.keptP (b := h0) (j := 0) 1 3 sg_3 rfl o_61 rfl
  replace sg_9 := tS.keptP (b := h0) (j := 0) 4 4 sg_9 rfl o_61 rfl
  replace sg_15 := tS.keptP (b := h0) (j := 0) 8 4 sg_15 rfl o_61 rfl
  replace sg_21 := tS.keptP (b := h0) (j := 0) 12 4 sg_21 rfl o_61 rfl
  replace sg_31 := tS.keptP (b := h0) (j := 0) 16 3 sg_31 rfl o_61 rfl
  replace sg_37 := tS.keptP (b := h0) (j := 0) 19 3 sg_37 rfl o_61 rfl
  replace at_41 := va_at.keptP (b := h0) (j := 0) 22 at_41 o_61 rfl
  replace sg_47 := tS.keptP (b := h0) (j := 0) 23 5 sg_47 rfl o_61 rfl
  replace sg_53 := tS.keptP (b := h0) (j := 0) 28 5 sg_53 rfl o_61 rfl
  replace sg_59 := tS.keptP (b := h0) (j := 0) 33 5 sg_59 rfl o_61 rfl
  clear o_61 hz_62
  refine lv_aload_n hx hb dX9_init_121 rfl (lv_at hl 0 rfl) ?_
  refine lv_iconst (v := 3) hx hb dX9_init_122 (by decide) ?_
  refine nw_newq (N := 3) (z := h0 + 38) hx hb hown (hts (.classLink RX9 50 RX0) (List.mem_of_getElem? (i := 23) rfl)) hE hS hz (Nat.le_add_right _ _) (by decide) (by decide) (by decide) (Nat.le_of_ble_eq_true rfl) (Nat.le_of_ble_eq_true rfl) dX9_init_123 (fun H at_63 hz o_64 hS => ?_)
  replace at0 := va_at.keptA (b := h0) (z := 38) 0 at0 o_64 (Nat.le_of_ble_eq_true rfl)
  replace sg_3 := tS.keptA (b := h0) (z := 38) 1 3 sg_3 rfl o_64 (Nat.le_of_ble_eq_true rfl)
  replace sg_9 := tS.keptA (b := h0) (z := 38) 4 4 sg_9 rfl o_64 (Nat.le_of_ble_eq_true rfl)
  replace sg_15 := tS.keptA (b := h0) (z := 38) 8 4 sg_15 rfl o_64 (Nat.le_of_ble_eq_true rfl)
  replace sg_21 := tS.keptA (b := h0) (z := 38) 12 4 sg_21 rfl o_64 (Nat.le_of_ble_eq_true rfl)
  replace sg_31 := tS.keptA (b := h0) (z := 38) 16 3 sg_31 rfl o_64 (Nat.le_of_ble_eq_true rfl)
  replace sg_37 := tS.keptA (b := h0) (z := 38) 19 3 sg_37 rfl o_64 (Nat.le_of_ble_eq_true rfl)
  replace at_41 := va_at.keptA (b := h0) (z := 38) 22 at_41 o_64 (Nat.le_of_ble_eq_true rfl)
  replace sg_47 := tS.keptA (b := h0) (z := 38) 23 5 sg_47 rfl o_64 (Nat.le_of_ble_eq_true rfl)
  replace sg_53 := tS.keptA (b := h0) (z := 38) 28 5 sg_53 rfl o_64 (Nat.le_of_ble_eq_true rfl)
  replace sg_59 := tS.keptA (b := h0) (z := 38) 33 5 sg_59 rfl o_64 (Nat.le_of_ble_eq_true rfl)
  clear o_64
  have hz : H.size = h0 + 39 := hz
  refine nw_putF (D := D) (ci := 8) (v := .ref (h0 + 38)) (ty := .array (.object "RiverModel$Course")) (C := RX9) (T := TX9) (N := 18) hx hb hts in9 tyX9 tyX9_ok nmX9 hown hK hS (Nat.le_refl _) at0 rfl 12 (by decide) (hts (.fieldLink RX9 63 "RiverModel" "kept" "[LRiverModel$Course;") (List.mem_of_getElem? (i := 29) rfl)) (fun _ h9 => h9) rfl hin rfl (by decide +kernel) rfl rfl (Nat.le_of_ble_eq_true rfl) dX9_init_126 (fun H locs at0 hz_66 o_65 hS => ?_)
  have at0 : va_at D vwCl (h0, .inr (8, [.ref (h0 + 1), .ref (h0 + 4), .ref (h0 + 8), .ref (h0 + 12), .int 0, .int 0, .ref (h0 + 16), .ref (h0 + 19), .ref (h0 + 22), .ref (h0 + 23), .ref (h0 + 28), .ref (h0 + 33), .ref (h0 + 38), .int 0, .null, .null, .null, .null])) H := at0
  replace hz : H.size = h0 + 39 := hz_66.trans hz
  replace sg_3 := tS.keptP (b := h0) (j := 0) 1 3 sg_3 rfl o_65 rfl
  replace sg_9 := tS.keptP (b := h0) (j := 0) 4 4 sg_9 rfl o_65 rfl
  replace sg_15 := tS.keptP (b := h0) (j := 0) 8 4 sg_15 rfl o_65 rfl
  replace sg_21 := tS.keptP (b := h0) (j := 0) 12 4 sg_21 rfl o_65 rfl
  replace sg_31 := tS.keptP (b := h0) (j := 0) 16 3 sg_31 rfl o_65 rfl
  replace sg_37 := tS.keptP (b := h0) (j := 0) 19 3 sg_37 rfl o_65 rfl
  replace at_41 := va_at.keptP (b := h0) (j := 0) 22 at_41 o_65 rfl
  replace sg_47 := tS.keptP (b := h0) (j := 0) 23 5 sg_47 rfl o_65 rfl
  replace sg_53 := tS.keptP (b := h0) (j := 0) 28 5 sg_53 rfl o_65 rfl
  replace sg_59 := tS.keptP (b := h0) (j := 0) 33 5 sg_59 rfl o_65 rfl
  replace at_63 := va_at.keptP (b := h0) (j := 0) 38 at_63 o_65 rfl
  clear o_65 hz_66
  refine lv_aload_n hx hb dX9_init_129 rfl (lv_at hl 0 rfl) ?_
  refine lv_iconst (v := 0) hx hb dX9_init_130 (by decide) ?_
  refine lv_pc (pc2 := 131) rfl ?_
  refine nw_put (D := D) (ci := 8) (v := .int 0) (ty := .int) (C := RX9) (T := TX9) (N := 18) hx hb hts in9 tyX9 tyX9_ok nmX9 hown hK hS (Nat.le_refl _) at0 rfl 13 (by decide) (hts (.fieldLink RX9 67 "RiverModel" "keptMany" "I") (List.mem_of_getElem? (i := 30) rfl)) (fun _ h9 => h9) rfl (by decide +kernel) rfl rfl (Nat.le_of_ble_eq_true rfl) dX9_init_131 (fun H locs at0 hz_68 o_67 hS => ?_)
  have at0 : va_at D vwCl (h0, .inr (8, [.ref (h0 + 1), .ref (h0 + 4), .ref (h0 + 8), .ref (h0 + 12), .int 0, .int 0, .ref (h0 + 16), .ref (h0 + 19), .ref (h0 + 22), .ref (h0 + 23), .ref (h0 + 28), .ref (h0 + 33), .ref (h0 + 38), .int 0, .null, .null, .null, .null])) H := at0
  replace hz : H.size = h0 + 39 := hz_68.trans hz
  replace sg_3 := tS.keptP (b := h0) (j := 0) 1 3 sg_3 rfl o_67 rfl
  replace sg_9 := tS.keptP (b := h0) (j := 0) 4 4 sg_9 rfl o_67 rfl
  replace sg_15 := tS.keptP (b := h0) (j := 0) 8 4 sg_15 rfl o_67 rfl
  replace sg_21 := tS.keptP (b := h0) (j := 0) 12 4 sg_21 rfl o_67 rfl
  replace sg_31 := tS.keptP (b := h0) (j := 0) 16 3 sg_31 rfl o_67 rfl
  replace sg_37 := tS.keptP (b := h0) (j := 0) 19 3 sg_37 rfl o_67 rfl
  replace at_41 := va_at.keptP (b := h0) (j := 0) 22 at_41 o_67 rfl
  replace sg_47 := tS.keptP (b := h0) (j := 0) 23 5 sg_47 rfl o_67 rfl
  replace sg_53 := tS.keptP (b := h0) (j := 0) 28 5 sg_53 rfl o_67 rfl
  replace sg_59 := tS.keptP (b := h0) (j := 0) 33 5 sg_59 rfl o_67 rfl
  replace at_63 := va_at.keptP (b := h0) (j := 0) 38 at_63 o_67 rfl
  clear o_67 hz_68
  refine lv_aload_n hx hb dX9_init_134 rfl (lv_at hl 0 rfl) ?_
  refine nw_new (ci := 1) (fs := [.null, .null, .null, .int 0]) (C := RX1) (T := TX1) (N := 4) (z := h0 + 39) hx hb hts in1 tyX1 tyX1_ok hown (hts (.classLink RX9 71 RX1) (List.mem_of_getElem? (i := 31) rfl)) (hts (.instantiable RX1 4) (List.mem_of_getElem? (i := 32) rfl)) (hts (.initialized RX1) (List.mem_of_getElem? (i := 33) rfl)) hK rfl df_X1 hS hz (Nat.le_add_right _ _) (Nat.le_of_ble_eq_true rfl) (Nat.le_of_ble_eq_true rfl) dX9_init_135 (fun H at_69 hz o_70 hS => ?_)
  replace at0 := va_at.keptA (b := h0) (z := 39) 0 at0 o_70 (Nat.le_of_ble_eq_true rfl)
  replace sg_3 := tS.keptA (b := h0) (z := 39) 1 3 sg_3 rfl o_70 (Nat.le_of_ble_eq_true rfl)
  replace sg_9 := tS.keptA (b := h0) (z := 39) 4 4 sg_9 rfl o_70 (Nat.le_of_ble_eq_true rfl)
  replace sg_15 := tS.keptA (b := h0) (z := 39) 8 4 sg_15 rfl o_70 (Nat.le_of_ble_eq_true rfl)
  replace sg_21 := tS.keptA (b := h0) (z := 39) 12 4 sg_21 rfl o_70 (Nat.le_of_ble_eq_true rfl)
  replace sg_31 := tS.keptA (b := h0) (z := 39) 16 3 sg_31 rfl o_70 (Nat.le_of_ble_eq_true rfl)
  replace sg_37 := tS.keptA (b := h0) (z := 39) 19 3 sg_37 rfl o_70 (Nat.le_of_ble_eq_true rfl)
  replace at_41 := va_at.keptA (b := h0) (z := 39) 22 at_41 o_70 (Nat.le_of_ble_eq_true rfl)
  replace sg_47 := tS.keptA (b := h0) (z := 39) 23 5 sg_47 rfl o_70 (Nat.le_of_ble_eq_true rfl)
  replace sg_53 := tS.keptA (b := h0) (z := 39) 28 5 sg_53 rfl o_70 (Nat.le_of_ble_eq_true rfl)
  replace sg_59 := tS.keptA (b := h0) (z := 39) 33 5 sg_59 rfl o_70 (Nat.le_of_ble_eq_true rfl)
  replace at_63 := va_at.keptA (b := h0) (z := 39) 38 at_63 o_70 (Nat.le_of_ble_eq_true rfl)
  clear o_70
  have hz : H.size = h0 + 40 := hz
  refine lv_dup hx hb dX9_init_138 rfl ?_
  refine nw_call (z := h0 + 39) (tRun (va_runI (As := []) (rest := [.ref (h0 + 39), .ref h0]) ⟨hx, hb, hml, hown, hts⟩ (cc_X1 l D cI cL cC (h0 + 39)) (cwI 0 hts gX9_init_X1_init rfl rfl rfl (hts (.initialized RX1) (List.mem_of_getElem? (i := 33) rfl)) (hts (.methodLink RX9 73 yX1_init) (List.mem_of_getElem? (i := 85) rfl)) (hts (.instanceMethod yX1_init) (List.mem_of_getElem? (i := 86) rfl)) rfl (by decide +kernel) ⟨Nat.le_of_ble_eq_true rfl, Nat.le_of_ble_eq_true rfl⟩) (cP_I hz at_69 hE) rfl rfl hl.1 rfl (lv_room (Nat.le_of_ble_eq_true rfl)) dX9_init_139 ⟨Nat.le_of_ble_eq_true rfl, Nat.le_of_ble_eq_true rfl⟩)) hS hz (by decide) (Nat.le_add_right _ _) (fun H locs sg_71 hz o_72 hS => ?_)
  replace at0 := va_at.keptA (b := h0) (z := 39) 0 at0 o_72 (Nat.le_of_ble_eq_true rfl)
  replace sg_3 := tS.keptA (b := h0) (z := 39) 1 3 sg_3 rfl o_72 (Nat.le_of_ble_eq_true rfl)
  replace sg_9 := tS.keptA (b := h0) (z := 39) 4 4 sg_9 rfl o_72 (Nat.le_of_ble_eq_true rfl)
  replace sg_15 := tS.keptA (b := h0) (z := 39) 8 4 sg_15 rfl o_72 (Nat.le_of_ble_eq_true rfl)
  replace sg_21 := tS.keptA (b := h0) (z := 39) 12 4 sg_21 rfl o_72 (Nat.le_of_ble_eq_true rfl)
  replace sg_31 := tS.keptA (b := h0) (z := 39) 16 3 sg_31 rfl o_72 (Nat.le_of_ble_eq_true rfl)
  replace sg_37 := tS.keptA (b := h0) (z := 39) 19 3 sg_37 rfl o_72 (Nat.le_of_ble_eq_true rfl)
  replace at_41 := va_at.keptA (b := h0) (z := 39) 22 at_41 o_72 (Nat.le_of_ble_eq_true rfl)
  replace sg_47 := tS.keptA (b := h0) (z := 39) 23 5 sg_47 rfl o_72 (Nat.le_of_ble_eq_true rfl)
  replace sg_53 := tS.keptA (b := h0) (z := 39) 28 5 sg_53 rfl o_72 (Nat.le_of_ble_eq_true rfl)
  replace sg_59 := tS.keptA (b := h0) (z := 39) 33 5 sg_59 rfl o_72 (Nat.le_of_ble_eq_true rfl)
  replace at_63 := va_at.keptA (b := h0) (z := 39) 38 at_63 o_72 (Nat.le_of_ble_eq_true rfl)
  have hz : H.size = h0 + 43 := tSlen (n := 4) hz rfl
  clear o_72
  have sg_71 : tS D (gF cI cL cC 0 0 0 (fun _ => 0) (fun _ => 0)) [6, 21, 22, 23] (h0 + 39) H := sg_71
  refine nw_putF (D := D) (ci := 8) (v := .ref (h0 + 39)) (ty := .object "RiverModel$Gauges") (C := RX9) (T := TX9) (N := 18) hx hb hts in9 tyX9 tyX9_ok nmX9 hown hK hS (Nat.le_refl _) at0 rfl 14 (by decide) (hts (.fieldLink RX9 74 "RiverModel" "gauges" "LRiverModel$Gauges;") (List.mem_of_getElem? (i := 34) rfl)) (fun _ h9 => h9) rfl hin rfl (by decide +kernel) rfl rfl (Nat.le_of_ble_eq_true rfl) dX9_init_142 (fun H locs at0 hz_74 o_73 hS => ?_)
  have at0 : va_at D vwCl (h0, .inr (8, [.ref (h0 + 1), .ref (h0 + 4), .ref (h0 + 8), .ref (h0 + 12), .int 0, .int 0, .ref (h0 + 16), .ref (h0 + 19), .ref (h0 + 22), .ref (h0 + 23), .ref (h0 + 28), .ref (h0 + 33), .ref (h0 + 38), .int 0, .ref (h0 + 39), .null, .null, .null])) H := at0
  replace hz : H.size = h0 + 43 := hz_74.trans hz
  replace sg_3 := tS.keptP (b := h0) (j := 0) 1 3 sg_3 rfl o_73 rfl
  replace sg_9 := tS.keptP (b := h0) (j := 0) 4 4 sg_9 rfl o_73 rfl
  replace sg_15 := tS.keptP (b := h0) (j := 0) 8 4 sg_15 rfl o_73 rfl
  replace sg_21 := tS.keptP (b := h0) (j := 0) 12 4 sg_21 rfl o_73 rfl
  replace sg_31 := tS.keptP (b := h0) (j := 0) 16 3 sg_31 rfl o_73 rfl
  replace sg_37 := tS.keptP (b := h0) (j := 0) 19 3 sg_37 rfl o_73 rfl
  replace at_41 := va_at.keptP (b := h0) (j := 0) 22 at_41 o_73 rfl
  replace sg_47 := tS.keptP (b := h0) (j := 0) 23 5 sg_47 rfl o_73 rfl
  replace sg_53 := tS.keptP (b := h0) (j := 0) 28 5 sg_53 rfl o_73 rfl
  replace sg_59 := tS.keptP (b := h0) (j := 0) 33 5 sg_59 rfl o_73 rfl
  replace at_63 := va_at.keptP (b := h0) (j := 0) 38 at_63 o_73 rfl
  replace sg_71 := tS.keptP (b := h0) (j := 0) 39 4 sg_71 rfl o_73 rfl
  clear o_73 hz_74
  refine lv_aload_n hx hb dX9_init_145 rfl (lv_at hl 0 rfl) ?_
  refine nw_new (ci := 2) (fs := [.null, .null, .null, .null, .null]) (C := RX3) (T := TX3) (N := 5) (z := h0 + 43) hx hb hts in3 tyX3 tyX3_ok hown (hts (.classLink RX9 78 RX3) (List.mem_of_getElem? (i := 35) rfl)) (hts (.instantiable RX3 5) (List.mem_of_getElem? (i := 36) rfl)) (hts (.initialized RX3) (List.mem_of_getElem? (i := 37) rfl)) hK rfl df_X3 hS hz (Nat.le_add_right _ _) (Nat.le_of_ble_eq_true rfl) (Nat.le_of_ble_eq_true rfl) dX9_init_146 (fun H at_75 hz o_76 hS => ?_)
  replace at0 := va_at.keptA (b := h0) (z := 43) 0 at0 o_76 (Nat.le_of_ble_eq_true rfl)
  replace sg_3 := tS.keptA (b := h0) (z := 43) 1 3 sg_3 rfl o_76 (Nat.le_of_ble_eq_true rfl)
  replace sg_9 := tS.keptA (b := h0) (z := 43) 4 4 sg_9 rfl o_76 (Nat.le_of_ble_eq_true rfl)
  replace sg_15 := tS.keptA (b := h0) (z := 43) 8 4 sg_15 rfl o_76 (Nat.le_of_ble_eq_true rfl)
  replace sg_21 := tS.keptA (b := h0) (z := 43) 12 4 sg_21 rfl o_76 (Nat.le_of_ble_eq_true rfl)
  replace sg_31 := tS.keptA (b := h0) (z := 43) 16 3 sg_31 rfl o_76 (Nat.le_of_ble_eq_true rfl)
  replace sg_37 := tS.keptA (b := h0) (z := 43) 19 3 sg_37 rfl o_76 (Nat.le_of_ble_eq_true rfl)
  replace at_41 := va_at.keptA (b := h0) (z := 43) 22 at_41 o_76 (Nat.le_of_ble_eq_true rfl)
  replace sg_47 := tS.keptA (b := h0) (z := 43) 23 5 sg_47 rfl o_76 (Nat.le_of_ble_eq_true rfl)
  replace sg_53 := tS.keptA (b := h0) (z := 43) 28 5 sg_53 rfl o_76 (Nat.le_of_ble_eq_true rfl)
  replace sg_59 := tS.keptA (b := h0) (z := 43) 33 5 sg_59 rfl o_76 (Nat.le_of_ble_eq_true rfl)
  replace at_63 := va_at.keptA (b := h0) (z := 43) 38 at_63 o_76 (Nat.le_of_ble_eq_true rfl)
  replace sg_71 := tS.keptA (b := h0) (z := 43) 39 4 sg_71 rfl o_76 (Nat.le_of_ble_eq_true rfl)
  clear o_76
  have hz : H.size = h0 + 44 := hz
  refine lv_pc (pc2 := 149) rfl ?_
  refine lv_dup hx hb dX9_init_149 rfl ?_
  refine nw_call (z := h0 + 43) (tRun (va_runIN (As := []) (rest := [.ref (h0 + 43), .ref h0]) ⟨hx, hb, hml, hown, hts⟩ (cc_X3 l D cI cL cC (h0 + 43)) ⟨va_cnB 0 hts gX9_init_X3_init_n80 rfl rfl rfl (hE.2.1 _ (List.mem_of_getElem? (i := 3) rfl)) (hts (.initialized RX3) (List.mem_of_getElem? (i := 37) rfl)) (by decide +kernel) ⟨Nat.le_of_ble_eq_true rfl, Nat.le_of_ble_eq_true rfl⟩, rfl, (hts (.instanceMethod yX3_init) (List.mem_of_getElem? (i := 94) rfl))⟩ (cP_I hz at_75 hE) rfl rfl hl.1 rfl (lv_room (Nat.le_of_ble_eq_true rfl)) dX9_init_150 ⟨Nat.le_of_ble_eq_true rfl, Nat.le_of_ble_eq_true rfl⟩)) hS hz (by decide) (Nat.le_add_right _ _) (fun H locs sg_77 hz o_78 hS => ?_)
  replace at0 := va_at.keptA (b := h0) (z := 43) 0 at0 o_78 (Nat.le_of_ble_eq_true rfl)
  replace sg_3 := tS.keptA (b := h0) (z := 43) 1 3 sg_3 rfl o_78 (Nat.le_of_ble_eq_true rfl)
  replace sg_9 := tS.keptA (b := h0) (z := 43) 4 4 sg_9 rfl o_78 (Nat.le_of_ble_eq_true rfl)
  replace sg_15 := tS.keptA (b := h0) (z := 43) 8 4 sg_15 rfl o_78 (Nat.le_of_ble_eq_true rfl)
  replace sg_21 := tS.keptA (b := h0) (z := 43) 12 4 sg_21 rfl o_78 (Nat.le_of_ble_eq_true rfl)
  replace sg_31 := tS.keptA (b := h0) (z := 43) 16 3 sg_31 rfl o_78 (Nat.le_of_ble_eq_true rfl)
  replace sg_37 := tS.keptA (b := h0) (z := 43) 19 3 sg_37 rfl o_78 (Nat.le_of_ble_eq_true rfl)
  replace at_41 := va_at.keptA (b := h0) (z := 43) 22 at_41 o_78 (Nat.le_of_ble_eq_true rfl)
  replace sg_47 := tS.keptA (b := h0) (z := 43) 23 5 sg_47 rfl o_78 (Nat.le_of_ble_eq_true rfl)
  replace sg_53 := tS.keptA (b := h0) (z := 43) 28 5 sg_53 rfl o_78 (Nat.le_of_ble_eq_true rfl)
  replace sg_59 := tS.keptA (b := h0) (z := 43) 33 5 sg_59 rfl o_78 (Nat.le_of_ble_eq_true rfl)
  replace at_63 := va_at.keptA (b := h0) (z := 43) 38 at_63 o_78 (Nat.le_of_ble_eq_true rfl)
  replace sg_71 := tS.keptA (b := h0) (z := 43) 39 4 sg_71 rfl o_78 (Nat.le_of_ble_eq_true rfl)
  have hz : H.size = h0 + 49 := tSlen (n := 6) hz rfl
  clear o_78
  have sg_77 : tS D (gF cI cL cC 0 0 0 (fun _ => 0) (fun _ => 0)) [7, 24, 25, 26, 27, 28] (h0 + 43) H := sg_77
  refine nw_putF (D := D) (ci := 8) (v := .ref (h0 + 43)) (ty := .object "RiverModel$Knobs") (C := RX9) (T := TX9) (N := 18) hx hb hts in9 tyX9 tyX9_ok nmX9 hown hK hS (Nat.le_refl _) at0 rfl 15 (by decide) (hts (.fieldLink RX9 81 "RiverModel" "knobs" "LRiverModel$Knobs;") (List.mem_of_getElem? (i := 38) rfl)) (fun _ h9 => h9) rfl hin rfl (by decide +kernel) rfl rfl (Nat.le_of_ble_eq_true rfl) dX9_init_153 (fun H locs at0 hz_80 o_79 hS => ?_)
  have at0 : va_at D vwCl (h0, .inr (8, [.ref (h0 + 1), .ref (h0 + 4), .ref (h0 + 8), .ref (h0 + 12), .int 0, .int 0, .ref (h0 + 16), .ref (h0 + 19), .ref (h0 + 22), .ref (h0 + 23), .ref (h0 + 28), .ref (h0 + 33), .ref (h0 + 38), .int 0, .ref (h0 + 39), .ref (h0 + 43), .null, .null])) H := at0
  replace hz : H.size = h0 + 49 := hz_80.trans hz
  replace sg_3 := tS.keptP (b := h0) (j := 0) 1 3 sg_3 rfl o_79 rfl
  replace sg_9 := tS.keptP (b := h0) (j := 0) 4 4 sg_9 rfl o_79 rfl
  replace sg_15 := tS.keptP (b := h0) (j := 0) 8 4 sg_15 rfl o_79 rfl
  replace sg_21 := tS.keptP (b := h0) (j := 0) 12 4 sg_21 rfl o_79 rfl
  replace sg_31 := tS.keptP (b := h0) (j := 0) 16 3 sg_31 rfl o_79 rfl
  replace sg_37 := tS.keptP (b := h0) (j := 0) 19 3 sg_37 rfl o_79 rfl
  replace at_41 := va_at.keptP (b := h0) (j := 0) 22 at_41 o_79 rfl
  replace sg_47 := tS.keptP (b := h0) (j := 0) 23 5 sg_47 rfl o_79 rfl
  replace sg_53 := tS.keptP (b := h0) (j := 0) 28 5 sg_53 rfl o_79 rfl
  replace sg_59 := tS.keptP (b := h0) (j := 0) 33 5 sg_59 rfl o_79 rfl
  replace at_63 := va_at.keptP (b := h0) (j := 0) 38 at_63 o_79 rfl
  replace sg_71 := tS.keptP (b := h0) (j := 0) 39 4 sg_71 rfl o_79 rfl
  replace sg_77 := tS.keptP (b := h0) (j := 0) 43 6 sg_77 rfl o_79 rfl
  clear o_79 hz_80
  refine lv_aload_n hx hb dX9_init_156 rfl (lv_at hl 0 rfl) ?_
  refine nw_new (ci := 7) (fs := [.null, .null, .null]) (C := RX8) (T := TX8) (N := 3) (z := h0 + 49) hx hb hts in8 tyX8 tyX8_ok hown (hts (.classLink RX9 85 RX8) (List.mem_of_getElem? (i := 39) rfl)) (hts (.instantiable RX8 3) (List.mem_of_getElem? (i := 40) rfl)) (hts (.initialized RX8) (List.mem_of_getElem? (i := 41) rfl)) hK rfl df_X8 hS hz (Nat.le_add_right _ _) (Nat.le_of_ble_eq_true rfl) (Nat.le_of_ble_eq_true rfl) dX9_init_157 (fun H at_81 hz o_82 hS => ?_)
  replace at0 := va_at.keptA (b := h0) (z := 49) 0 at0 o_82 (Nat.le_of_ble_eq_true rfl)
  replace sg_3 := tS.keptA (b := h0) (z := 49) 1 3 sg_3 rfl o_82 (Nat.le_of_ble_eq_true rfl)
  replace sg_9 := tS.keptA (b := h0) (z := 49) 4 4 sg_9 rfl o_82 (Nat.le_of_ble_eq_true rfl)
  replace sg_15 := tS.keptA (b := h0) (z := 49) 8 4 sg_15 rfl o_82 (Nat.le_of_ble_eq_true rfl)
  replace sg_21 := tS.keptA (b := h0) (z := 49) 12 4 sg_21 rfl o_82 (Nat.le_of_ble_eq_true rfl)
  replace sg_31 := tS.keptA (b := h0) (z := 49) 16 3 sg_31 rfl o_82 (Nat.le_of_ble_eq_true rfl)
  replace sg_37 := tS.keptA (b := h0) (z := 49) 19 3 sg_37 rfl o_82 (Nat.le_of_ble_eq_true rfl)
  replace at_41 := va_at.keptA (b := h0) (z := 49) 22 at_41 o_82 (Nat.le_of_ble_eq_true rfl)
  replace sg_47 := tS.keptA (b := h0) (z := 49) 23 5 sg_47 rfl o_82 (Nat.le_of_ble_eq_true rfl)
  replace sg_53 := tS.keptA (b := h0) (z := 49) 28 5 sg_53 rfl o_82 (Nat.le_of_ble_eq_true rfl)
  replace sg_59 := tS.keptA (b := h0) (z := 49) 33 5 sg_59 rfl o_82 (Nat.le_of_ble_eq_true rfl)
  replace at_63 := va_at.keptA (b := h0) (z := 49) 38 at_63 o_82 (Nat.le_of_ble_eq_true rfl)
  replace sg_71 := tS.keptA (b := h0) (z := 49) 39 4 sg_71 rfl o_82 (Nat.le_of_ble_eq_true rfl)
  replace sg_77 := tS.keptA (b := h0) (z := 49) 43 6 sg_77 rfl o_82 (Nat.le_of_ble_eq_true rfl)
  clear o_82
  have hz : H.size = h0 + 50 := hz
  refine lv_dup hx hb dX9_init_160 rfl ?_
  refine nw_call (z := h0 + 49) (tRun (va_runIN (As := []) (rest := [.ref (h0 + 49), .ref h0]) ⟨hx, hb, hml, hown, hts⟩ (cc_X8 l D cI cL cC (h0 + 49)) ⟨va_cnB 0 hts gX9_init_X8_init_n87 rfl rfl rfl (hE.2.1 _ (List.mem_of_getElem? (i := 4) rfl)) (hts (.initialized RX8) (List.mem_of_getElem? (i := 41) rfl)) (by decide +kernel) ⟨Nat.le_of_ble_eq_true rfl, Nat.le_of_ble_eq_true rfl⟩, rfl, (hts (.instanceMethod yX8_init) (List.mem_of_getElem? (i := 102) rfl))⟩ (cP_I hz at_81 hE) rfl rfl hl.1 rfl (lv_room (Nat.le_of_ble_eq_true rfl)) dX9_init_161 ⟨Nat.le_of_ble_eq_true rfl, Nat.le_of_ble_eq_true rfl⟩)) hS hz (by decide) (Nat.le_add_right _ _) (fun H locs sg_83 hz o_84 hS => ?_)
  replace at0 := va_at.keptA (b := h0) (z := 49) 0 at0 o_84 (Nat.le_of_ble_eq_true rfl)
  replace sg_3 := tS.keptA (b := h0) (z := 49) 1 3 sg_3 rfl o_84 (Nat.le_of_ble_eq_true rfl)
  replace sg_9 := tS.keptA (b := h0) (z := 49) 4 4 sg_9 rfl o_84 (Nat.le_of_ble_eq_true rfl)
  replace sg_15 := tS.keptA (b := h0) (z := 49) 8 4 sg_15 rfl o_84 (Nat.le_of_ble_eq_true rfl)
  replace sg_21 := tS.keptA (b := h0) (z := 49) 12 4 sg_21 rfl o_84 (Nat.le_of_ble_eq_true rfl)
  replace sg_31 := tS.keptA (b := h0) (z := 49) 16 3 sg_31 rfl o_84 (Nat.le_of_ble_eq_true rfl)
  replace sg_37 := tS.keptA (b := h0) (z := 49) 19 3 sg_37 rfl o_84 (Nat.le_of_ble_eq_true rfl)
  replace at_41 := va_at.keptA (b := h0) (z := 49) 22 at_41 o_84 (Nat.le_of_ble_eq_true rfl)
  replace sg_47 := tS.keptA (b := h0) (z := 49) 23 5 sg_47 rfl o_84 (Nat.le_of_ble_eq_true rfl)
  replace sg_53 := tS.keptA (b := h0) (z := 49) 28 5 sg_53 rfl o_84 (Nat.le_of_ble_eq_true rfl)
  replace sg_59 := tS.keptA (b := h0) (z := 49) 33 5 sg_59 rfl o_84 (Nat.le_of_ble_eq_true rfl)
  replace at_63 := va_at.keptA (b := h0) (z := 49) 38 at_63 o_84 (Nat.le_of_ble_eq_true rfl)
  replace sg_71 := tS.keptA (b := h0) (z := 49) 39 4 sg_71 rfl o_84 (Nat.le_of_ble_eq_true rfl)
  replace sg_77 := tS.keptA (b := h0) (z := 49) 43 6 sg_77 rfl o_84 (Nat.le_of_ble_eq_true rfl)
  have hz : H.size = h0 + 53 := tSlen (n := 4) hz rfl
  clear o_84
  have sg_83 : tS D (gF cI cL cC 0 0 0 (fun _ => 0) (fun _ => 0)) [8, 29, 30, 31] (h0 + 49) H := sg_83
  refine nw_putF (D := D) (ci := 8) (v := .ref (h0 + 49)) (ty := .object "RiverModel$Worlds") (C := RX9) (T := TX9) (N := 18) hx hb hts in9 tyX9 tyX9_ok nmX9 hown hK hS (Nat.le_refl _) at0 rfl 16 (by decide) (hts (.fieldLink RX9 88 "RiverModel" "worlds" "LRiverModel$Worlds;") (List.mem_of_getElem? (i := 42) rfl)) (fun _ h9 => h9) rfl hin rfl (by decide +kernel) rfl rfl (Nat.le_of_ble_eq_true rfl) dX9_init_164 (fun H locs at0 hz_86 o_85 hS => ?_)
  have at0 : va_at D vwCl (h0, .inr (8, [.ref (h0 + 1), .ref (h0 + 4), .ref (h0 + 8), .ref (h0 + 12), .int 0, .int 0, .ref (h0 + 16), .ref (h0 + 19), .ref (h0 + 22), .ref (h0 + 23), .ref (h0 + 28), .ref (h0 + 33), .ref (h0 + 38), .int 0, .ref (h0 + 39), .ref (h0 + 43), .ref (h0 + 49), .null])) H := at0
  replace hz : H.size = h0 + 53 := hz_86.trans hz
  replace sg_3 := tS.keptP (b := h0) (j := 0) 1 3 sg_3 rfl o_85 rfl
  replace sg_9 := tS.keptP (b := h0) (j := 0) 4 4 sg_9 rfl o_85 rfl
  replace sg_15 := tS.keptP (b := h0) (j := 0) 8 4 sg_15 rfl o_85 rfl
  replace sg_21 := tS.keptP (b := h0) (j := 0) 12 4 sg_21 rfl o_85 rfl
  replace sg_31 := tS.keptP (b := h0) (j := 0) 16 3 sg_31 rfl o_85 rfl
  replace sg_37 := tS.keptP (b := h0) (j := 0) 19 3 sg_37 rfl o_85 rfl
  replace at_41 := va_at.keptP (b := h0) (j := 0) 22 at_41 o_85 rfl
  replace sg_47 := tS.keptP (b := h0) (j := 0) 23 5 sg_47 rfl o_85 rfl
  replace sg_53 := tS.keptP (b := h0) (j := 0) 28 5 sg_53 rfl o_85 rfl
  replace sg_59 := tS.keptP (b := h0) (j := 0) 33 5 sg_59 rfl o_85 rfl
  replace at_63 := va_at.keptP (b := h0) (j := 0) 38 at_63 o_85 rfl
  replace sg_71 := tS.keptP (b := h0) (j := 0) 39 4 sg_71 rfl o_85 rfl
  replace sg_77 := tS.keptP (b := h0) (j := 0) 43 6 sg_77 rfl o_85 rfl
  replace sg_83 := tS.keptP (b := h0) (j := 0) 49 4 sg_83 rfl o_85 rfl
  clear o_85 hz_86
  refine lv_pc (pc2 := 167) rfl ?_
  refine lv_aload_n hx hb dX9_init_167 rfl (lv_at hl 0 rfl) ?_
  refine nw_new (ci := 4) (fs := [.null, .null, .null, .int 0, .long 0, .int 0, .int 0, .int 0, .int 0, .long 0]) (C := RX5) (T := TX5) (N := 10) (z := h0 + 53) hx hb hts in5 tyX5 tyX5_ok hown (hts (.classLink RX9 92 RX5) (List.mem_of_getElem? (i := 43) rfl)) (hts (.instantiable RX5 10) (List.mem_of_getElem? (i := 44) rfl)) (hts (.initialized RX5) (List.mem_of_getElem? (i := 45) rfl)) hK rfl df_X5 hS hz (Nat.le_add_right _ _) (Nat.le_of_ble_eq_true rfl) (Nat.le_of_ble_eq_true rfl) dX9_init_168 (fun H at_87 hz o_88 hS => ?_)
  replace at0 := va_at.keptA (b := h0) (z := 53) 0 at0 o_88 (Nat.le_of_ble_eq_true rfl)
  replace sg_3 := tS.keptA (b := h0) (z := 53) 1 3 sg_3 rfl o_88 (Nat.le_of_ble_eq_true rfl)
  replace sg_9 := tS.keptA (b := h0) (z := 53) 4 4 sg_9 rfl o_88 (Nat.le_of_ble_eq_true rfl)
  replace sg_15 := tS.keptA (b := h0) (z := 53) 8 4 sg_15 rfl o_88 (Nat.le_of_ble_eq_true rfl)
  replace sg_21 := tS.keptA (b := h0) (z := 53) 12 4 sg_21 rfl o_88 (Nat.le_of_ble_eq_true rfl)
  replace sg_31 := tS.keptA (b := h0) (z := 53) 16 3 sg_31 rfl o_88 (Nat.le_of_ble_eq_true rfl)
  replace sg_37 := tS.keptA (b := h0) (z := 53) 19 3 sg_37 rfl o_88 (Nat.le_of_ble_eq_true rfl)
  replace at_41 := va_at.keptA (b := h0) (z := 53) 22 at_41 o_88 (Nat.le_of_ble_eq_true rfl)
  replace sg_47 := tS.keptA (b := h0) (z := 53) 23 5 sg_47 rfl o_88 (Nat.le_of_ble_eq_true rfl)
  replace sg_53 := tS.keptA (b := h0) (z := 53) 28 5 sg_53 rfl o_88 (Nat.le_of_ble_eq_true rfl)
  replace sg_59 := tS.keptA (b := h0) (z := 53) 33 5 sg_59 rfl o_88 (Nat.le_of_ble_eq_true rfl)
  replace at_63 := va_at.keptA (b := h0) (z := 53) 38 at_63 o_88 (Nat.le_of_ble_eq_true rfl)
  replace sg_71 := tS.keptA (b := h0) (z := 53) 39 4 sg_71 rfl o_88 (Nat.le_of_ble_eq_true rfl)
  replace sg_77 := tS.keptA (b := h0) (z := 53) 43 6 sg_77 rfl o_88 (Nat.le_of_ble_eq_true rfl)
  replace sg_83 := tS.keptA (b := h0) (z := 53) 49 4 sg_83 rfl o_88 (Nat.le_of_ble_eq_true rfl)
  clear o_88
  have hz : H.size = h0 + 54 := hz
  refine lv_dup hx hb dX9_init_171 rfl ?_
  refine nw_call (z := h0 + 53) (tRun (va_runI (As := []) (rest := [.ref (h0 + 53), .ref h0]) ⟨hx, hb, hml, hown, hts⟩ (cc_X5 l D cI cL cC (h0 + 53)) (cwI 0 hts gX9_init_X5_init rfl rfl rfl (hts (.initialized RX5) (List.mem_of_getElem? (i := 45) rfl)) (hts (.methodLink RX9 94 yX5_init) (List.mem_of_getElem? (i := 108) rfl)) (hts (.instanceMethod yX5_init) (List.mem_of_getElem? (i := 109) rfl)) rfl (by decide +kernel) ⟨Nat.le_of_ble_eq_true rfl, Nat.le_of_ble_eq_true rfl⟩) (cP_I hz at_87 hE) rfl rfl hl.1 rfl (lv_room (Nat.le_of_ble_eq_true rfl)) dX9_init_172 ⟨Nat.le_of_ble_eq_true rfl, Nat.le_of_ble_eq_true rfl⟩)) hS hz (by decide) (Nat.le_add_right _ _) (fun H locs sg_89 hz o_90 hS => ?_)
  replace at0 := va_at.keptA (b := h0) (z := 53) 0 at0 o_90 (Nat.le_of_ble_eq_true rfl)
  replace sg_3 := tS.keptA (b := h0) (z := 53) 1 3 sg_3 rfl o_90 (Nat.le_of_ble_eq_true rfl)
  replace sg_9 := tS.keptA (b := h0) (z := 53) 4 4 sg_9 rfl o_90 (Nat.le_of_ble_eq_true rfl)
  replace sg_15 := tS.keptA (b := h0) (z := 53) 8 4 sg_15 rfl o_90 (Nat.le_of_ble_eq_true rfl)
  replace sg_21 := tS.keptA (b := h0) (z := 53) 12 4 sg_21 rfl o_90 (Nat.le_of_ble_eq_true rfl)
  replace sg_31 := tS.keptA (b := h0) (z := 53) 16 3 sg_31 rfl o_90 (Nat.le_of_ble_eq_true rfl)
  replace sg_37 := tS.keptA (b := h0) (z := 53) 19 3 sg_37 rfl o_90 (Nat.le_of_ble_eq_true rfl)
  replace at_41 := va_at.keptA (b := h0) (z := 53) 22 at_41 o_90 (Nat.le_of_ble_eq_true rfl)
  replace sg_47 := tS.keptA (b := h0) (z := 53) 23 5 sg_47 rfl o_90 (Nat.le_of_ble_eq_true rfl)
  replace sg_53 := tS.keptA (b := h0) (z := 53) 28 5 sg_53 rfl o_90 (Nat.le_of_ble_eq_true rfl)
  replace sg_59 := tS.keptA (b := h0) (z := 53) 33 5 sg_59 rfl o_90 (Nat.le_of_ble_eq_true rfl)
  replace at_63 := va_at.keptA (b := h0) (z := 53) 38 at_63 o_90 (Nat.le_of_ble_eq_true rfl)
  replace sg_71 := tS.keptA (b := h0) (z := 53) 39 4 sg_71 rfl o_90 (Nat.le_of_ble_eq_true rfl)
  replace sg_77 := tS.keptA (b := h0) (z := 53) 43 6 sg_77 rfl o_90 (Nat.le_of_ble_eq_true rfl)
  replace sg_83 := tS.keptA (b := h0) (z := 53) 49 4 sg_83 rfl o_90 (Nat.le_of_ble_eq_true rfl)
  have hz : H.size = h0 + 77 := tSlen (n := 24) hz rfl
  clear o_90
  have sg_89 : tS D (gF cI cL cC 0 0 0 (fun _ => 0) (fun _ => 0)) [9, 32, 33, 34, 5, 17, 18, 19, 20, 5, 17, 18, 19, 20, 5, 17, 18, 19, 20, 5, 17, 18, 19, 20] (h0 + 53) H := sg_89
  refine nw_putF (D := D) (ci := 8) (v := .ref (h0 + 53)) (ty := .object "RiverModel$Search") (C := RX9) (T := TX9) (N := 18) hx hb hts in9 tyX9 tyX9_ok nmX9 hown hK hS (Nat.le_refl _) at0 rfl 17 (by decide) (hts (.fieldLink RX9 95 "RiverModel" "search" "LRiverModel$Search;") (List.mem_of_getElem? (i := 46) rfl)) (fun _ h9 => h9) rfl hin rfl (by decide +kernel) rfl rfl (Nat.le_of_ble_eq_true rfl) dX9_init_175 (fun H locs at0 hz_92 o_91 hS => ?_)
  have at0 : va_at D vwCl (h0, .inr (8, [.ref (h0 + 1), .ref (h0 + 4), .ref (h0 + 8), .ref (h0 + 12), .int 0, .int 0, .ref (h0 + 16), .ref (h0 + 19), .ref (h0 + 22), .ref (h0 + 23), .ref (h0 + 28), .ref (h0 + 33), .ref (h0 + 38), .int 0, .ref (h0 + 39), .ref (h0 + 43), .ref (h0 + 49), .ref (h0 + 53)])) H := at0
  replace hz : H.size = h0 + 77 := hz_92.trans hz
  replace sg_3 := tS.keptP (b := h0) (j := 0) 1 3 sg_3 rfl o_91 rfl
  replace sg_9 := tS.keptP (b := h0) (j := 0) 4 4 sg_9 rfl o_91 rfl
  replace sg_15 := tS.keptP (b := h0) (j := 0) 8 4 sg_15 rfl o_91 rfl
  replace sg_21 := tS.keptP (b := h0) (j := 0) 12 4 sg_21 rfl o_91 rfl
  replace sg_31 := tS.keptP (b := h0) (j := 0) 16 3 sg_31 rfl o_91 rfl
  replace sg_37 := tS.keptP (b := h0) (j := 0) 19 3 sg_37 rfl o_91 rfl
  replace at_41 := va_at.keptP (b := h0) (j := 0) 22 at_41 o_91 rfl
  replace sg_47 := tS.keptP (b := h0) (j := 0) 23 5 sg_47 rfl o_91 rfl
  replace sg_53 := tS.keptP (b := h0) (j := 0) 28 5 sg_53 rfl o_91 rfl
  replace sg_59 := tS.keptP (b := h0) (j := 0) 33 5 sg_59 rfl o_91 rfl
  replace at_63 := va_at.keptP (b := h0) (j := 0) 38 at_63 o_91 rfl
  replace sg_71 := tS.keptP (b := h0) (j := 0) 39 4 sg_71 rfl o_91 rfl
  replace sg_77 := tS.keptP (b := h0) (j := 0) 43 6 sg_77 rfl o_91 rfl
  replace sg_83 := tS.keptP (b := h0) (j := 0) 49 4 sg_83 rfl o_91 rfl
  replace sg_89 := tS.keptP (b := h0) (j := 0) 53 24 sg_89 rfl o_91 rfl
  clear o_91 hz_92
  refine lv_iconst (v := 0) hx hb dX9_init_178 (by decide) ?_
  refine lv_istore_n (lv' := [(1, .int 0), (0, .ref h0)]) hx hb dX9_init_179 rfl hl (by decide) rfl (fun ls hl => ?_)
  refine lv_iload_n hx hb dX9_init_180 rfl (lv_at hl 0 rfl) ?_
  refine lv_pc (pc2 := 181) rfl ?_
  refine lv_iconst (v := 3) hx hb dX9_init_181 (by decide) ?_
  refine lv_icmp_ge (tgt := 204) hx hb dX9_init_182 (by decide) (fun q => absurd q (by decide)) (fun _ => ?_)
  refine lv_aload_n hx hb dX9_init_185 rfl (lv_at hl 1 rfl) ?_
  refine va_get (D := D) (ci := 8) (v := .ref (h0 + 38)) (C := RX9) (T := TX9) (N := 18) hx hb hts in9 hown hK (va_one at0) 0 rfl rfl 12 (by decide) (hts (.fieldLink RX9 63 "RiverModel" "kept" "[LRiverModel$Course;") (List.mem_of_getElem? (i := 29) rfl)) (fun _ h9 => h9) rfl dX9_init_186 ?_
  refine lv_iload_n hx hb dX9_init_189 rfl (lv_at hl 0 rfl) ?_
  refine nw_new (ci := 0) (fs := [.null, .null, .null, .null, .long 0, .long 0, .long 0, .int 0]) (C := RX0) (T := TX0) (N := 8) (z := h0 + 77) hx hb hts in0 tyX0 tyX0_ok hown (hts (.classLink RX9 50 RX0) (List.mem_of_getElem? (i := 23) rfl)) (hts (.instantiable RX0 8) (List.mem_of_getElem? (i := 24) rfl)) (hts (.initialized RX0) (List.mem_of_getElem? (i := 25) rfl)) hK rfl df_X0 hS hz (Nat.le_add_right _ _) (Nat.le_of_ble_eq_true rfl) (Nat.le_of_ble_eq_true rfl) dX9_init_190 (fun H at_93 hz o_94 hS => ?_)
  replace at0 := va_at.keptA (b := h0) (z := 77) 0 at0 o_94 (Nat.le_of_ble_eq_true rfl)
  replace sg_3 := tS.keptA (b := h0) (z := 77) 1 3 sg_3 rfl o_94 (Nat.le_of_ble_eq_true rfl)
  replace sg_9 := tS.keptA (b := h0) (z := 77) 4 4 sg_9 rfl o_94 (Nat.le_of_ble_eq_true rfl)
  replace sg_15 := tS.keptA (b := h0) (z := 77) 8 4 sg_15 rfl o_94 (Nat.le_of_ble_eq_true rfl)
  replace sg_21 := tS.keptA (b := h0) (z := 77) 12 4 sg_21 rfl o_94 (Nat.le_of_ble_eq_true rfl)
  replace sg_31 := tS.keptA (b := h0) (z := 77) 16 3 sg_31 rfl o_94 (Nat.le_of_ble_eq_true rfl)
  replace sg_37 := tS.keptA (b := h0) (z := 77) 19 3 sg_37 rfl o_94 (Nat.le_of_ble_eq_true rfl)
  replace at_41 := va_at.keptA (b := h0) (z := 77) 22 at_41 o_94 (Nat.le_of_ble_eq_true rfl)
  replace sg_47 := tS.keptA (b := h0) (z := 77) 23 5 sg_47 rfl o_94 (Nat.le_of_ble_eq_true rfl)
  replace sg_53 := tS.keptA (b := h0) (z := 77) 28 5 sg_53 rfl o_94 (Nat.le_of_ble_eq_true rfl)
  replace sg_59 := tS.keptA (b := h0) (z := 77) 33 5 sg_59 rfl o_94 (Nat.le_of_ble_eq_true rfl)
  replace at_63 := va_at.keptA (b := h0) (z := 77) 38 at_63 o_94 (Nat.le_of_ble_eq_true rfl)
  replace sg_71 := tS.keptA (b := h0) (z := 77) 39 4 sg_71 rfl o_94 (Nat.le_of_ble_eq_true rfl)
  replace sg_77 := tS.keptA (b := h0) (z := 77) 43 6 sg_77 rfl o_94 (Nat.le_of_ble_eq_true rfl)
  replace sg_83 := tS.keptA (b := h0) (z := 77) 49 4 sg_83 rfl o_94 (Nat.le_of_ble_eq_true rfl)
  replace sg_89 := tS.keptA (b := h0) (z := 77) 53 24 sg_89 rfl o_94 (Nat.le_of_ble_eq_true rfl)
  clear o_94
  have hz : H.size = h0 + 78 := hz
  refine lv_dup hx hb dX9_init_193 rfl ?_
  refine nw_call (z := h0 + 77) (tRun (va_runIN (As := []) (rest := [.ref (h0 + 77), .int 0, .ref (h0 + 38)]) ⟨hx, hb, hml, hown, hts⟩ (cc_X0 l D cI cL cC (h0 + 77)) ⟨va_cnB 0 hts gX9_init_X0_init_n52 rfl rfl rfl (hE.2.1 _ (List.mem_of_getElem? (i := 2) rfl)) (hts (.initialized RX0) (List.mem_of_getElem? (i := 25) rfl)) (by decide +kernel) ⟨Nat.le_of_ble_eq_true rfl, Nat.le_of_ble_eq_true rfl⟩, rfl, (hts (.instanceMethod yX0_init) (List.mem_of_getElem? (i := 73) rfl))⟩ (cP_I hz at_93 hE) rfl rfl hl.1 rfl (lv_room (Nat.le_of_ble_eq_true rfl)) dX9_init_194 ⟨Nat.le_of_ble_eq_true rfl, Nat.le_of_ble_eq_true rfl⟩)) hS hz (by decide) (Nat.le_add_right _ _) (fun H locs sg_95 hz o_96 hS => ?_)
  replace at0 := va_at.keptA (b := h0) (z := 77) 0 at0 o_96 (Nat.le_of_ble_eq_true rfl)
  replace sg_3 := tS.keptA (b := h0) (z := 77) 1 3 sg_3 rfl o_96 (Nat.le_of_ble_eq_true rfl)
  replace sg_9 := tS.keptA (b := h0) (z := 77) 4 4 sg_9 rfl o_96 (Nat.le_of_ble_eq_true rfl)
  replace sg_15 := tS.keptA (b := h0) (z := 77) 8 4 sg_15 rfl o_96 (Nat.le_of_ble_eq_true rfl)
  replace sg_21 := tS.keptA (b := h0) (z := 77) 12 4 sg_21 rfl o_96 (Nat.le_of_ble_eq_true rfl)
  replace sg_31 := tS.keptA (b := h0) (z := 77) 16 3 sg_31 rfl o_96 (Nat.le_of_ble_eq_true rfl)
  replace sg_37 := tS.keptA (b := h0) (z := 77) 19 3 sg_37 rfl o_96 (Nat.le_of_ble_eq_true rfl)
  replace at_41 := va_at.keptA (b := h0) (z := 77) 22 at_41 o_96 (Nat.le_of_ble_eq_true rfl)
  replace sg_47 := tS.keptA (b := h0) (z := 77) 23 5 sg_47 rfl o_96 (Nat.le_of_ble_eq_true rfl)
  replace sg_53 := tS.keptA (b := h0) (z := 77) 28 5 sg_53 rfl o_96 (Nat.le_of_ble_eq_true rfl)
  replace sg_59 := tS.keptA (b := h0) (z := 77) 33 5 sg_59 rfl o_96 (Nat.le_of_ble_eq_true rfl)
  replace at_63 := va_at.keptA (b := h0) (z := 77) 38 at_63 o_96 (Nat.le_of_ble_eq_true rfl)
  replace sg_71 := tS.keptA (b := h0) (z := 77) 39 4 sg_71 rfl o_96 (Nat.le_of_ble_eq_true rfl)
  replace sg_77 := tS.keptA (b := h0) (z := 77) 43 6 sg_77 rfl o_96 (Nat.le_of_ble_eq_true rfl)
  replace sg_83 := tS.keptA (b := h0) (z := 77) 49 4 sg_83 rfl o_96 (Nat.le_of_ble_eq_true rfl)
  replace sg_89 := tS.keptA (b := h0) (z := 77) 53 24 sg_89 rfl o_96 (Nat.le_of_ble_eq_true rfl)
  have hz : H.size = h0 + 82 := tSlen (n := 5) hz rfl
  clear o_96
  have sg_95 : tS D (gF cI cL cC 0 0 0 (fun _ => 0) (fun _ => 0)) [5, 17, 18, 19, 20] (h0 + 77) H := sg_95
  refine lv_pc (pc2 := 197) rfl ?_
  obtain ⟨e_97, at_98, h_99⟩ := sg_95 0 (by decide)
  obtain ⟨_, _, _, _, _, _, _, _, rfl, _, _, _, _, _⟩ := h_99 (tK2 [5, 17, 18, 19, 20] (h0 + 77)) (fun j _ => tK2_at _ _ _)
  refine nw_aast hx hb hK hS (Nat.le_add_right _ _) at_63 at_98 (i := 0) (q_in (by decide) (by decide)) dX9_init_197 (fun H locs at_63 hz_101 o_100 hS => ?_)
  have at_63 : va_at D vwCl (h0 + 38, .inl (cC, 3, .inr (.inr (.inr (.inr (va_up (fun _ => none) 0 (some (h0 + 77)))))))) H := at_63
  replace hz : H.size = h0 + 82 := hz_101.trans hz
  clear at_98
  replace at0 := va_at.keptP (b := h0) (j := 38) 0 at0 o_100 rfl
  replace sg_3 := tS.keptP (b := h0) (j := 38) 1 3 sg_3 rfl o_100 rfl
  replace sg_9 := tS.keptP (b := h0) (j := 38) 4 4 sg_9 rfl o_100 rfl
  replace sg_15 := tS.keptP (b := h0) (j := 38) 8 4 sg_15 rfl o_100 rfl
  replace sg_21 := tS.keptP (b := h0) (j := 38) 12 4 sg_21 rfl o_100 rfl
  replace sg_31 := tS.keptP (b := h0) (j := 38) 16 3 sg_31 rfl o_100 rfl
  replace sg_37 := tS.keptP (b := h0) (j := 38) 19 3 sg_37 rfl o_100 rfl
  replace at_41 := va_at.keptP (b := h0) (j := 38) 22 at_41 o_100 rfl
  replace sg_47 := tS.keptP (b := h0) (j := 38) 23 5 sg_47 rfl o_100 rfl
  replace sg_53 := tS.keptP (b := h0) (j := 38) 28 5 sg_53 rfl o_100 rfl
  replace sg_59 := tS.keptP (b := h0) (j := 38) 33 5 sg_59 rfl o_100 rfl
  replace sg_71 := tS.keptP (b := h0) (j := 38) 39 4 sg_71 rfl o_100 rfl
  replace sg_77 := tS.keptP (b := h0) (j := 38) 43 6 sg_77 rfl o_100 rfl
  replace sg_83 := tS.keptP (b := h0) (j := 38) 49 4 sg_83 rfl o_100 rfl
  replace sg_89 := tS.keptP (b := h0) (j := 38) 53 24 sg_89 rfl o_100 rfl
  replace sg_95 := tS.keptP (b := h0) (j := 38) 77 5 sg_95 rfl o_100 rfl
  clear o_100 hz_101
  refine lv_iinc (v := 1) (lv' := [(1, .int 1), (0, .ref h0)]) hx hb dX9_init_198 hl (k := 0) rfl (by decide) (by decide) rfl (fun ls hl => ?_)
  refine lv_goto (tgt := 180) hx hb dX9_init_201 (by decide) ?_
  refine lv_iload_n hx hb dX9_init_180 rfl (lv_at hl 0 rfl) ?_
  refine lv_iconst (v := 3) hx hb dX9_init_181 (by decide) ?_
  refine lv_icmp_ge (tgt := 204) hx hb dX9_init_182 (by decide) (fun q => absurd q (by decide)) (fun _ => ?_)
  refine lv_aload_n hx hb dX9_init_185 rfl (lv_at hl 1 rfl) ?_
  refine va_get (D := D) (ci := 8) (v := .ref (h0 + 38)) (C := RX9) (T := TX9) (N := 18) hx hb hts in9 hown hK (va_one at0) 0 rfl rfl 12 (by decide) (hts (.fieldLink RX9 63 "RiverModel" "kept" "[LRiverModel$Course;") (List.mem_of_getElem? (i := 29) rfl)) (fun _ h9 => h9) rfl dX9_init_186 ?_
  refine lv_pc (pc2 := 189) rfl ?_
  refine lv_iload_n hx hb dX9_init_189 rfl (lv_at hl 0 rfl) ?_
  refine nw_new (ci := 0) (fs := [.null, .null, .null, .null, .long 0, .long 0, .long 0, .int 0]) (C := RX0) (T := TX0) (N := 8) (z := h0 + 82) hx hb hts in0 tyX0 tyX0_ok hown (hts (.classLink RX9 50 RX0) (List.mem_of_getElem? (i := 23) rfl)) (hts (.instantiable RX0 8) (List.mem_of_getElem? (i := 24) rfl)) (hts (.initialized RX0) (List.mem_of_getElem? (i := 25) rfl)) hK rfl df_X0 hS hz (Nat.le_add_right _ _) (Nat.le_of_ble_eq_true rfl) (Nat.le_of_ble_eq_true rfl) dX9_init_190 (fun H at_102 hz o_103 hS => ?_)
  replace at0 := va_at.keptA (b := h0) (z := 82) 0 at0 o_103 (Nat.le_of_ble_eq_true rfl)
  replace sg_3 := tS.keptA (b := h0) (z := 82) 1 3 sg_3 rfl o_103 (Nat.le_of_ble_eq_true rfl)
  replace sg_9 := tS.keptA (b := h0) (z := 82) 4 4 sg_9 rfl o_103 (Nat.le_of_ble_eq_true rfl)
  replace sg_15 := tS.keptA (b := h0) (z := 82) 8 4 sg_15 rfl o_103 (Nat.le_of_ble_eq_true rfl)
  replace sg_21 := tS.keptA (b := h0) (z := 82) 12 4 sg_21 rfl o_103 (Nat.le_of_ble_eq_true rfl)
  replace sg_31 := tS.keptA (b := h0) (z := 82) 16 3 sg_31 rfl o_103 (Nat.le_of_ble_eq_true rfl)
  replace sg_37 := tS.keptA (b := h0) (z := 82) 19 3 sg_37 rfl o_103 (Nat.le_of_ble_eq_true rfl)
  replace at_41 := va_at.keptA (b := h0) (z := 82) 22 at_41 o_103 (Nat.le_of_ble_eq_true rfl)
  replace sg_47 := tS.keptA (b := h0) (z := 82) 23 5 sg_47 rfl o_103 (Nat.le_of_ble_eq_true rfl)
  replace sg_53 := tS.keptA (b := h0) (z := 82) 28 5 sg_53 rfl o_103 (Nat.le_of_ble_eq_true rfl)
  replace sg_59 := tS.keptA (b := h0) (z := 82) 33 5 sg_59 rfl o_103 (Nat.le_of_ble_eq_true rfl)
  replace at_63 := va_at.keptA (b := h0) (z := 82) 38 at_63 o_103 (Nat.le_of_ble_eq_true rfl)
  replace sg_71 := tS.keptA (b := h0) (z := 82) 39 4 sg_71 rfl o_103 (Nat.le_of_ble_eq_true rfl)
  replace sg_77 := tS.keptA (b := h0) (z := 82) 43 6 sg_77 rfl o_103 (Nat.le_of_ble_eq_true rfl)
  replace sg_83 := tS.keptA (b := h0) (z := 82) 49 4 sg_83 rfl o_103 (Nat.le_of_ble_eq_true rfl)
  replace sg_89 := tS.keptA (b := h0) (z := 82) 53 24 sg_89 rfl o_103 (Nat.le_of_ble_eq_true rfl)
  replace sg_95 := tS.keptA (b := h0) (z := 82) 77 5 sg_95 rfl o_103 (Nat.le_of_ble_eq_true rfl)
  clear o_103
  have hz : H.size = h0 + 83 := hz
  refine lv_dup hx hb dX9_init_193 rfl ?_
  refine nw_call (z := h0 + 82) (tRun (va_runIN (As := []) (rest := [.ref (h0 + 82), .int 1, .ref (h0 + 38)]) ⟨hx, hb, hml, hown, hts⟩ (cc_X0 l D cI cL cC (h0 + 82)) ⟨va_cnB 0 hts gX9_init_X0_init_n52 rfl rfl rfl (hE.2.1 _ (List.mem_of_getElem? (i := 2) rfl)) (hts (.initialized RX0) (List.mem_of_getElem? (i := 25) rfl)) (by decide +kernel) ⟨Nat.le_of_ble_eq_true rfl, Nat.le_of_ble_eq_true rfl⟩, rfl, (hts (.instanceMethod yX0_init) (List.mem_of_getElem? (i := 73) rfl))⟩ (cP_I hz at_102 hE) rfl rfl hl.1 rfl (lv_room (Nat.le_of_ble_eq_true rfl)) dX9_init_194 ⟨Nat.le_of_ble_eq_true rfl, Nat.le_of_ble_eq_true rfl⟩)) hS hz (by decide) (Nat.le_add_right _ _) (fun H locs sg_104 hz o_105 hS => ?_)
  replace at0 := va_at.keptA (b := h0) (z := 82) 0 at0 o_105 (Nat.le_of_ble_eq_true rfl)
  replace sg_3 := tS.keptA (b := h0) (z := 82) 1 3 sg_3 rfl o_105 (Nat.le_of_ble_eq_true rfl)
  replace sg_9 := tS.keptA (b := h0) (z := 82) 4 4 sg_9 rfl o_105 (Nat.le_of_ble_eq_true rfl)
  replace sg_15 := tS.keptA (b := h0) (z := 82) 8 4 sg_15 rfl o_105 (Nat.le_of_ble_eq_true rfl)
  replace sg_21 := tS.keptA (b := h0) (z := 82) 12 4 sg_21 rfl o_105 (Nat.le_of_ble_eq_true rfl)
  replace sg_31 := tS.keptA (b := h0) (z := 82) 16 3 sg_31 rfl o_105 (Nat.le_of_ble_eq_true rfl)
  replace sg_37 := tS.keptA (b := h0) (z := 82) 19 3 sg_37 rfl o_105 (Nat.le_of_ble_eq_true rfl)
  replace at_41 := va_at.keptA (b := h0) (z := 82) 22 at_41 o_105 (Nat.le_of_ble_eq_true rfl)
  replace sg_47 := tS.keptA (b := h0) (z := 82) 23 5 sg_47 rfl o_105 (Nat.le_of_ble_eq_true rfl)
  replace sg_53 := tS.keptA (b := h0) (z := 82) 28 5 sg_53 rfl o_105 (Nat.le_of_ble_eq_true rfl)
  replace sg_59 := tS.keptA (b := h0) (z := 82) 33 5 sg_59 rfl o_105 (Nat.le_of_ble_eq_true rfl)
  replace at_63 := va_at.keptA (b := h0) (z := 82) 38 at_63 o_105 (Nat.le_of_ble_eq_true rfl)
  replace sg_71 := tS.keptA (b := h0) (z := 82) 39 4 sg_71 rfl o_105 (Nat.le_of_ble_eq_true rfl)
  replace sg_77 := tS.keptA (b := h0) (z := 82) 43 6 sg_77 rfl o_105 (Nat.le_of_ble_eq_true rfl)
  replace sg_83 := tS.keptA (b := h0) (z := 82) 49 4 sg_83 rfl o_105 (Nat.le_of_ble_eq_true rfl)
  replace sg_89 := tS.keptA (b := h0) (z := 82) 53 24 sg_89 rfl o_105 (Nat.le_of_ble_eq_true rfl)
  replace sg_95 := tS.keptA (b := h0) (z := 82) 77 5 sg_95 rfl o_105 (Nat.le_of_ble_eq_true rfl)
  have hz : H.size = h0 + 87 := tSlen (n := 5) hz rfl
  clear o_105
  have sg_104 : tS D (gF cI cL cC 0 0 0 (fun _ => 0) (fun _ => 0)) [5, 17, 18, 19, 20] (h0 + 82) H := sg_104
  obtain ⟨e_106, at_107, h_108⟩ := sg_104 0 (by decide)
  obtain ⟨_, _, _, _, _, _, _, _, rfl, _, _, _, _, _⟩ := h_108 (tK2 [5, 17, 18, 19, 20] (h0 + 82)) (fun j _ => tK2_at _ _ _)
  refine nw_aast hx hb hK hS (Nat.le_add_right _ _) at_63 at_107 (i := 1) (q_in (by decide) (by decide)) dX9_init_197 (fun H locs at_63 hz_110 o_109 hS => ?_)
  have at_63 : va_at D vwCl (h0 + 38, .inl (cC, 3, .inr (.inr (.inr (.inr (va_up (va_up (fun _ => none) 0 (some (h0 + 77))) 1 (some (h0 + 82)))))))) H := at_63
  replace hz : H.size = h0 + 87 := hz_110.trans hz
  clear at_107
  replace at0 := va_at.keptP (b := h0) (j := 38) 0 at0 o_109 rfl
  replace sg_3 := tS.keptP (b := h0) (j := 38) 1 3 sg_3 rfl o_109 rfl
  replace sg_9 := tS.keptP (b := h0) (j := 38) 4 4 sg_9 rfl o_109 rfl
  replace sg_15 := tS.keptP (b := h0) (j := 38) 8 4 sg_15 rfl o_109 rfl
  replace sg_21 := tS.keptP (b := h0) (j := 38) 12 4 sg_21 rfl o_109 rfl
  replace sg_31 := tS.keptP (b := h0) (j := 38) 16 3 sg_31 rfl o_109 rfl
  replace sg_37 := tS.keptP (b := h0) (j := 38) 19 3 sg_37 rfl o_109 rfl
  replace at_41 := va_at.keptP (b := h0) (j := 38) 22 at_41 o_109 rfl
  replace sg_47 := tS.keptP (b := h0) (j := 38) 23 5 sg_47 rfl o_109 rfl
  replace sg_53 := tS.keptP (b := h0) (j := 38) 28 5 sg_53 rfl o_109 rfl
  replace sg_59 := tS.keptP (b := h0) (j := 38) 33 5 sg_59 rfl o_109 rfl
  replace sg_71 := tS.keptP (b := h0) (j := 38) 39 4 sg_71 rfl o_109 rfl
  replace sg_77 := tS.keptP (b := h0) (j := 38) 43 6 sg_77 rfl o_109 rfl
  replace sg_83 := tS.keptP (b := h0) (j := 38) 49 4 sg_83 rfl o_109 rfl
  replace sg_89 := tS.keptP (b := h0) (j := 38) 53 24 sg_89 rfl o_109 rfl
  replace sg_95 := tS.keptP (b := h0) (j := 38) 77 5 sg_95 rfl o_109 rfl
  replace sg_104 := tS.keptP (b := h0) (j := 38) 82 5 sg_104 rfl o_109 rfl
  clear o_109 hz_110
  refine lv_iinc (v := 2) (lv' := [(1, .int 2), (0, .ref h0)]) hx hb dX9_init_198 hl (k := 0) rfl (by decide) (by decide) rfl (fun ls hl => ?_)
  refine lv_goto (tgt := 180) hx hb dX9_init_201 (by decide) ?_
  refine lv_iload_n hx hb dX9_init_180 rfl (lv_at hl 0 rfl) ?_
  refine lv_pc (pc2 := 181) rfl ?_
  refine lv_iconst (v := 3) hx hb dX9_init_181 (by decide) ?_
  refine lv_icmp_ge (tgt := 204) hx hb dX9_init_182 (by decide) (fun q => absurd q (by decide)) (fun _ => ?_)
  refine lv_aload_n hx hb dX9_init_185 rfl (lv_at hl 1 rfl) ?_
  refine va_get (D := D) (ci := 8) (v := .ref (h0 + 38)) (C := RX9) (T := TX9) (N := 18) hx hb hts in9 hown hK (va_one at0) 0 rfl rfl 12 (by decide) (hts (.fieldLink RX9 63 "RiverModel" "kept" "[LRiverModel$Course;") (List.mem_of_getElem? (i := 29) rfl)) (fun _ h9 => h9) rfl dX9_init_186 ?_
  refine lv_iload_n hx hb dX9_init_189 rfl (lv_at hl 0 rfl) ?_
  refine nw_new (ci := 0) (fs := [.null, .null, .null, .null, .long 0, .long 0, .long 0, .int 0]) (C := RX0) (T := TX0) (N := 8) (z := h0 + 87) hx hb hts in0 tyX0 tyX0_ok hown (hts (.classLink RX9 50 RX0) (List.mem_of_getElem? (i := 23) rfl)) (hts (.instantiable RX0 8) (List.mem_of_getElem? (i := 24) rfl)) (hts (.initialized RX0) (List.mem_of_getElem? (i := 25) rfl)) hK rfl df_X0 hS hz (Nat.le_add_right _ _) (Nat.le_of_ble_eq_true rfl) (Nat.le_of_ble_eq_true rfl) dX9_init_190 (fun H at_111 hz o_112 hS => ?_)
  replace at0 := va_at.keptA (b := h0) (z := 87) 0 at0 o_112 (Nat.le_of_ble_eq_true rfl)
  replace sg_3 := tS.keptA (b := h0) (z := 87) 1 3 sg_3 rfl o_112 (Nat.le_of_ble_eq_true rfl)
  replace sg_9 := tS.keptA (b := h0) (z := 87) 4 4 sg_9 rfl o_112 (Nat.le_of_ble_eq_true rfl)
  replace sg_15 := tS.keptA (b := h0) (z := 87) 8 4 sg_15 rfl o_112 (Nat.le_of_ble_eq_true rfl)
  replace sg_21 := tS.keptA (b := h0) (z := 87) 12 4 sg_21 rfl o_112 (Nat.le_of_ble_eq_true rfl)
  replace sg_31 := tS.keptA (b := h0) (z := 87) 16 3 sg_31 rfl o_112 (Nat.le_of_ble_eq_true rfl)
  replace sg_37 := tS.keptA (b := h0) (z := 87) 19 3 sg_37 rfl o_112 (Nat.le_of_ble_eq_true rfl)
  replace at_41 := va_at.keptA (b := h0) (z := 87) 22 at_41 o_112 (Nat.le_of_ble_eq_true rfl)
  replace sg_47 := tS.keptA (b := h0) (z := 87) 23 5 sg_47 rfl o_112 (Nat.le_of_ble_eq_true rfl)
  replace sg_53 := tS.keptA (b := h0) (z := 87) 28 5 sg_53 rfl o_112 (Nat.le_of_ble_eq_true rfl)
  replace sg_59 := tS.keptA (b := h0) (z := 87) 33 5 sg_59 rfl o_112 (Nat.le_of_ble_eq_true rfl)
  replace at_63 := va_at.keptA (b := h0) (z := 87) 38 at_63 o_112 (Nat.le_of_ble_eq_true rfl)
  replace sg_71 := tS.keptA (b := h0) (z := 87) 39 4 sg_71 rfl o_112 (Nat.le_of_ble_eq_true rfl)
  replace sg_77 := tS.keptA (b := h0) (z := 87) 43 6 sg_77 rfl o_112 (Nat.le_of_ble_eq_true rfl)
  replace sg_83 := tS.keptA (b := h0) (z := 87) 49 4 sg_83 rfl o_112 (Nat.le_of_ble_eq_true rfl)
  replace sg_89 := tS.keptA (b := h0) (z := 87) 53 24 sg_89 rfl o_112 (Nat.le_of_ble_eq_true rfl)
  replace sg_95 := tS.keptA (b := h0) (z := 87) 77 5 sg_95 rfl o_112 (Nat.le_of_ble_eq_true rfl)
  replace sg_104 := tS.keptA (b := h0) (z := 87) 82 5 sg_104 rfl o_112 (Nat.le_of_ble_eq_true rfl)
  clear o_112
  have hz : H.size = h0 + 88 := hz
  refine lv_dup hx hb dX9_init_193 rfl ?_
  refine nw_call (z := h0 + 87) (tRun (va_runIN (As := []) (rest := [.ref (h0 + 87), .int 2, .ref (h0 + 38)]) ⟨hx, hb, hml, hown, hts⟩ (cc_X0 l D cI cL cC (h0 + 87)) ⟨va_cnB 0 hts gX9_init_X0_init_n52 rfl rfl rfl (hE.2.1 _ (List.mem_of_getElem? (i := 2) rfl)) (hts (.initialized RX0) (List.mem_of_getElem? (i := 25) rfl)) (by decide +kernel) ⟨Nat.le_of_ble_eq_true rfl, Nat.le_of_ble_eq_true rfl⟩, rfl, (hts (.instanceMethod yX0_init) (List.mem_of_getElem? (i := 73) rfl))⟩ (cP_I hz at_111 hE) rfl rfl hl.1 rfl (lv_room (Nat.le_of_ble_eq_true rfl)) dX9_init_194 ⟨Nat.le_of_ble_eq_true rfl, Nat.le_of_ble_eq_true rfl⟩)) hS hz (by decide) (Nat.le_add_right _ _) (fun H locs sg_113 hz o_114 hS => ?_)
  replace at0 := va_at.keptA (b := h0) (z := 87) 0 at0 o_114 (Nat.le_of_ble_eq_true rfl)
  replace sg_3 := tS.keptA (b := h0) (z := 87) 1 3 sg_3 rfl o_114 (Nat.le_of_ble_eq_true rfl)
  replace sg_9 := tS.keptA (b := h0) (z := 87) 4 4 sg_9 rfl o_114 (Nat.le_of_ble_eq_true rfl)
  replace sg_15 := tS.keptA (b := h0) (z := 87) 8 4 sg_15 rfl o_114 (Nat.le_of_ble_eq_true rfl)
  replace sg_21 := tS.keptA (b := h0) (z := 87) 12 4 sg_21 rfl o_114 (Nat.le_of_ble_eq_true rfl)
  replace sg_31 := tS.keptA (b := h0) (z := 87) 16 3 sg_31 rfl o_114 (Nat.le_of_ble_eq_true rfl)
  replace sg_37 := tS.keptA (b := h0) (z := 87) 19 3 sg_37 rfl o_114 (Nat.le_of_ble_eq_true rfl)
  replace at_41 := va_at.keptA (b := h0) (z := 87) 22 at_41 o_114 (Nat.le_of_ble_eq_true rfl)
  replace sg_47 := tS.keptA (b := h0) (z := 87) 23 5 sg_47 rfl o_114 (Nat.le_of_ble_eq_true rfl)
  replace sg_53 := tS.keptA (b := h0) (z := 87) 28 5 sg_53 rfl o_114 (Nat.le_of_ble_eq_true rfl)
  replace sg_59 := tS.keptA (b := h0) (z := 87) 33 5 sg_59 rfl o_114 (Nat.le_of_ble_eq_true rfl)
  replace at_63 := va_at.keptA (b := h0) (z := 87) 38 at_63 o_114 (Nat.le_of_ble_eq_true rfl)
  replace sg_71 := tS.keptA (b := h0) (z := 87) 39 4 sg_71 rfl o_114 (Nat.le_of_ble_eq_true rfl)
  replace sg_77 := tS.keptA (b := h0) (z := 87) 43 6 sg_77 rfl o_114 (Nat.le_of_ble_eq_true rfl)
  replace sg_83 := tS.keptA (b := h0) (z := 87) 49 4 sg_83 rfl o_114 (Nat.le_of_ble_eq_true rfl)
  replace sg_89 := tS.keptA (b := h0) (z := 87) 53 24 sg_89 rfl o_114 (Nat.le_of_ble_eq_true rfl)
  replace sg_95 := tS.keptA (b := h0) (z := 87) 77 5 sg_95 rfl o_114 (Nat.le_of_ble_eq_true rfl)
  replace sg_104 := tS.keptA (b := h0) (z := 87) 82 5 sg_104 rfl o_114 (Nat.le_of_ble_eq_true rfl)
  have hz : H.size = h0 + 92 := tSlen (n := 5) hz rfl
  clear o_114
  have sg_113 : tS D (gF cI cL cC 0 0 0 (fun _ => 0) (fun _ => 0)) [5, 17, 18, 19, 20] (h0 + 87) H := sg_113
  refine lv_pc (pc2 := 197) rfl ?_
  obtain ⟨e_115, at_116, h_117⟩ := sg_113 0 (by decide)
  obtain ⟨_, _, _, _, _, _, _, _, rfl, _, _, _, _, _⟩ := h_117 (tK2 [5, 17, 18, 19, 20] (h0 + 87)) (fun j _ => tK2_at _ _ _)
  refine nw_aast hx hb hK hS (Nat.le_add_right _ _) at_63 at_116 (i := 2) (q_in (by decide) (by decide)) dX9_init_197 (fun H locs at_63 hz_119 o_118 hS => ?_)
  have at_63 : va_at D vwCl (h0 + 38, .inl (cC, 3, .inr (.inr (.inr (.inr (va_up (va_up (va_up (fun _ => none) 0 (some (h0 + 77))) 1 (some (h0 + 82))) 2 (some (h0 + 87)))))))) H := at_63
  replace hz : H.size = h0 + 92 := hz_119.trans hz
  clear at_116
  replace at0 := va_at.keptP (b := h0) (j := 38) 0 at0 o_118 rfl
  replace sg_3 := tS.keptP (b := h0) (j := 38) 1 3 sg_3 rfl o_118 rfl
  replace sg_9 := tS.keptP (b := h0) (j := 38) 4 4 sg_9 rfl o_118 rfl
  replace sg_15 := tS.keptP (b := h0) (j := 38) 8 4 sg_15 rfl o_118 rfl
  replace sg_21 := tS.keptP (b := h0) (j := 38) 12 4 sg_21 rfl o_118 rfl
  replace sg_31 := tS.keptP (b := h0) (j := 38) 16 3 sg_31 rfl o_118 rfl
  replace sg_37 := tS.keptP (b := h0) (j := 38) 19 3 sg_37 rfl o_118 rfl
  replace at_41 := va_at.keptP (b := h0) (j := 38) 22 at_41 o_118 rfl
  replace sg_47 := tS.keptP (b := h0) (j := 38) 23 5 sg_47 rfl o_118 rfl
  replace sg_53 := tS.keptP (b := h0) (j := 38) 28 5 sg_53 rfl o_118 rfl
  replace sg_59 := tS.keptP (b := h0) (j := 38) 33 5 sg_59 rfl o_118 rfl
  replace sg_71 := tS.keptP (b := h0) (j := 38) 39 4 sg_71 rfl o_118 rfl
  replace sg_77 := tS.keptP (b := h0) (j := 38) 43 6 sg_77 rfl o_118 rfl
  replace sg_83 := tS.keptP (b := h0) (j := 38) 49 4 sg_83 rfl o_118 rfl
  replace sg_89 := tS.keptP (b := h0) (j := 38) 53 24 sg_89 rfl o_118 rfl
  replace sg_95 := tS.keptP (b := h0) (j := 38) 77 5 sg_95 rfl o_118 rfl
  replace sg_104 := tS.keptP (b := h0) (j := 38) 82 5 sg_104 rfl o_118 rfl
  replace sg_113 := tS.keptP (b := h0) (j := 38) 87 5 sg_113 rfl o_118 rfl
  clear o_118 hz_119
  refine lv_iinc (v := 3) (lv' := [(1, .int 3), (0, .ref h0)]) hx hb dX9_init_198 hl (k := 0) rfl (by decide) (by decide) rfl (fun ls hl => ?_)
  refine lv_goto (tgt := 180) hx hb dX9_init_201 (by decide) ?_
  refine lv_iload_n hx hb dX9_init_180 rfl (lv_at hl 0 rfl) ?_
  refine lv_iconst (v := 3) hx hb dX9_init_181 (by decide) ?_
  refine lv_icmp_ge (tgt := 204) hx hb dX9_init_182 (by decide) (fun _ => ?_) (fun q => absurd (by decide) q)
  have sg_120 : tS D (gF cI cL cC 0 0 0 (fun _ => 0) (fun _ => 0)) [35] (h0 + 22) H := tS.one at_41 (fun t => ⟨_, rfl⟩)
  have sj_122 : tS D (gF cI cL cC 0 0 0 (fun _ => 0) (fun _ => 0)) [5, 17, 18, 19, 20, 5, 17, 18, 19, 20] (h0 + 82) H := tS.app3 5 sg_104 sg_113 rfl rfl
  have sj_123 : tS D (gF cI cL cC 0 0 0 (fun _ => 0) (fun _ => 0)) [5, 17, 18, 19, 20, 5, 17, 18, 19, 20, 5, 17, 18, 19, 20] (h0 + 77) H := tS.app3 5 sg_95 sj_122 rfl rfl
  have sj_124 : tS D (gF cI cL cC 0 0 0 (fun _ => 0) (fun _ => 0)) [9, 32, 33, 34, 5, 17, 18, 19, 20, 5, 17, 18, 19, 20, 5, 17, 18, 19, 20, 5, 17, 18, 19, 20, 5, 17, 18, 19, 20, 5, 17, 18, 19, 20, 5, 17, 18, 19, 20] (h0 + 53) H := tS.app3 24 sg_89 sj_123 rfl rfl
  have sj_125 : tS D (gF cI cL cC 0 0 0 (fun _ => 0) (fun _ => 0)) [8, 29, 30, 31, 9, 32, 33, 34, 5, 17, 18, 19, 20, 5, 17, 18, 19, 20, 5, 17, 18, 19, 20, 5, 17, 18, 19, 20, 5, 17, 18, 19, 20, 5, 17, 18, 19, 20, 5, 17, 18, 19, 20] (h0 + 49) H := tS.app3 4 sg_83 sj_124 rfl rfl
  have sj_126 : tS D (gF cI cL cC 0 0 0 (fun _ => 0) (fun _ => 0)) [7, 24, 25, 26, 27, 28, 8, 29, 30, 31, 9, 32, 33, 34, 5, 17, 18, 19, 20, 5, 17, 18, 19, 20, 5, 17, 18, 19, 20, 5, 17, 18, 19, 20, 5, 17, 18, 19, 20, 5, 17, 18, 19, 20, 5, 17, 18, 19, 20] (h0 + 43) H := tS.app3 6 sg_77 sj_125 rfl rfl
  have sj_127 : tS D (gF cI cL cC 0 0 0 (fun _ => 0) (fun _ => 0)) [6, 21, 22, 23, 7, 24, 25, 26, 27, 28, 8, 29, 30, 31, 9, 32, 33, 34, 5, 17, 18, 19, 20, 5, 17, 18, 19, 20, 5, 17, 18, 19, 20, 5, 17, 18, 19, 20, 5, 17, 18, 19, 20, 5, 17, 18, 19, 20, 5, 17, 18, 19, 20] (h0 + 39) H := tS.app3 4 sg_71 sj_126 rfl rfl
  have sj_128 : tS D (gF cI cL cC 0 0 0 (fun _ => 0) (fun _ => 0)) [36, 6, 21, 22, 23, 7, 24, 25, 26, 27, 28, 8, 29, 30, 31, 9, 32, 33, 34, 5, 17, 18, 19, 20, 5, 17, 18, 19, 20, 5, 17, 18, 19, 20, 5, 17, 18, 19, 20, 5, 17, 18, 19, 20, 5, 17, 18, 19, 20, 5, 17, 18, 19, 20] (h0 + 38) H := by
    refine tS.cons at_63 sj_127 (fun t h1 ht => ⟨_, rfl, fun j hj => ?_⟩)
    rcases lt3 hj with rfl | rfl | rfl
    · exact ⟨h0 + 77, rfl, ht 38 (by decide)⟩
    · exact ⟨h0 + 82, rfl, ht 43 (by decide)⟩
    · exact ⟨h0 + 87, rfl, ht 48 (by decide)⟩
  have sj_129 : tS D (gF cI cL cC 0 0 0 (fun _ => 0) (fun _ => 0)) [5, 17, 18, 19, 20, 36, 6, 21, 22, 23, 7, 24, 25, 26, 27, 28, 8, 29, 30, 31, 9, 32, 33, 34, 5, 17, 18, 19, 20, 5, 17, 18, 19, 20, 5, 17, 18, 19, 20, 5, 17, 18, 19, 20, 5, 17, 18, 19, 20, 5, 17, 18, 19, 20, 5, 17, 18, 19, 20] (h0 + 33) H := tS.app3 5 sg_59 sj_128 rfl rfl
  have sj_130 : tS D (gF cI cL cC 0 0 0 (fun _ => 0) (fun _ => 0)) [5, 17, 18, 19, 20, 5, 17, 18, 19, 20, 36, 6, 21, 22, 23, 7, 24, 25, 26, 27, 28, 8, 29, 30, 31, 9, 32, 33, 34, 5, 17, 18, 19, 20, 5, 17, 18, 19, 20, 5, 17, 18, 19, 20, 5, 17, 18, 19, 20, 5, 17, 18, 19, 20, 5, 17, 18, 19, 20, 5, 17, 18, 19, 20] (h0 + 28) H := tS.app3 5 sg_53 sj_129 rfl rfl
  have sj_131 : tS D (gF cI cL cC 0 0 0 (fun _ => 0) (fun _ => 0)) [5, 17, 18, 19, 20, 5, 17, 18, 19, 20, 5, 17, 18, 19, 20, 36, 6, 21, 22, 23, 7, 24, 25, 26, 27, 28, 8, 29, 30, 31, 9, 32, 33, 34, 5, 17, 18, 19, 20, 5, 17, 18, 19, 20, 5, 17, 18, 19, 20, 5, 17, 18, 19, 20, 5, 17, 18, 19, 20, 5, 17, 18, 19, 20, 5, 17, 18, 19, 20] (h0 + 23) H := tS.app3 5 sg_47 sj_130 rfl rfl
  have sj_132 : tS D (gF cI cL cC 0 0 0 (fun _ => 0) (fun _ => 0)) [35, 5, 17, 18, 19, 20, 5, 17, 18, 19, 20, 5, 17, 18, 19, 20, 36, 6, 21, 22, 23, 7, 24, 25, 26, 27, 28, 8, 29, 30, 31, 9, 32, 33, 34, 5, 17, 18, 19, 20, 5, 17, 18, 19, 20, 5, 17, 18, 19, 20, 5, 17, 18, 19, 20, 5, 17, 18, 19, 20, 5, 17, 18, 19, 20, 5, 17, 18, 19, 20] (h0 + 22) H := tS.app3 1 sg_120 sj_131 rfl rfl
  have sj_133 : tS D (gF cI cL cC 0 0 0 (fun _ => 0) (fun _ => 0)) [4, 15, 16, 35, 5, 17, 18, 19, 20, 5, 17, 18, 19, 20, 5, 17, 18, 19, 20, 36, 6, 21, 22, 23, 7, 24, 25, 26, 27, 28, 8, 29, 30, 31, 9, 32, 33, 34, 5, 17, 18, 19, 20, 5, 17, 18, 19, 20, 5, 17, 18, 19, 20, 5, 17, 18, 19, 20, 5, 17, 18, 19, 20, 5, 17, 18, 19, 20, 5, 17, 18, 19, 20] (h0 + 19) H := tS.app3 3 sg_37 sj_132 rfl rfl
  have sj_134 : tS D (gF cI cL cC 0 0 0 (fun _ => 0) (fun _ => 0)) [4, 15, 16, 4, 15, 16, 35, 5, 17, 18, 19, 20, 5, 17, 18, 19, 20, 5, 17, 18, 19, 20, 36, 6, 21, 22, 23, 7, 24, 25, 26, 27, 28, 8, 29, 30, 31, 9, 32, 33, 34, 5, 17, 18, 19, 20, 5, 17, 18, 19, 20, 5, 17, 18, 19, 20, 5, 17, 18, 19, 20, 5, 17, 18, 19, 20, 5, 17, 18, 19, 20, 5, 17, 18, 19, 20] (h0 + 16) H := tS.app3 3 sg_31 sj_133 rfl rfl
  have sj_135 : tS D (gF cI cL cC 0 0 0 (fun _ => 0) (fun _ => 0)) [3, 12, 13, 14, 4, 15, 16, 4, 15, 16, 35, 5, 17, 18, 19, 20, 5, 17, 18, 19, 20, 5, 17, 18, 19, 20, 36, 6, 21, 22, 23, 7, 24, 25, 26, 27, 28, 8, 29, 30, 31, 9, 32, 33, 34, 5, 17, 18, 19, 20, 5, 17, 18, 19, 20, 5, 17, 18, 19, 20, 5, 17, 18, 19, 20, 5, 17, 18, 19, 20, 5, 17, 18, 19, 20, 5, 17, 18, 19, 20] (h0 + 12) H := tS.app3 4 sg_21 sj_134 rfl rfl
  have sj_136 : tS D (gF cI cL cC 0 0 0 (fun _ => 0) (fun _ => 0)) [3, 12, 13, 14, 3, 12, 13, 14, 4, 15, 16, 4, 15, 16, 35, 5, 17, 18, 19, 20, 5, 17, 18, 19, 20, 5, 17, 18, 19, 20, 36, 6, 21, 22, 23, 7, 24, 25, 26, 27, 28, 8, 29, 30, 31, 9, 32, 33, 34, 5, 17, 18, 19, 20, 5, 17, 18, 19, 20, 5, 17, 18, 19, 20, 5, 17, 18, 19, 20, 5, 17, 18, 19, 20, 5, 17, 18, 19, 20, 5, 17, 18, 19, 20] (h0 + 8) H := tS.app3 4 sg_15 sj_135 rfl rfl
  have sj_137 : tS D (gF cI cL cC 0 0 0 (fun _ => 0) (fun _ => 0)) [3, 12, 13, 14, 3, 12, 13, 14, 3, 12, 13, 14, 4, 15, 16, 4, 15, 16, 35, 5, 17, 18, 19, 20, 5, 17, 18, 19, 20, 5, 17, 18, 19, 20, 36, 6, 21, 22, 23, 7, 24, 25, 26, 27, 28, 8, 29, 30, 31, 9, 32, 33, 34, 5, 17, 18, 19, 20, 5, 17, 18, 19, 20, 5, 17, 18, 19, 20, 5, 17, 18, 19, 20, 5, 17, 18, 19, 20, 5, 17, 18, 19, 20, 5, 17, 18, 19, 20] (h0 + 4) H := tS.app3 4 sg_9 sj_136 rfl rfl
  have sj_138 : tS D (gF cI cL cC 0 0 0 (fun _ => 0) (fun _ => 0)) [2, 10, 11, 3, 12, 13, 14, 3, 12, 13, 14, 3, 12, 13, 14, 4, 15, 16, 4, 15, 16, 35, 5, 17, 18, 19, 20, 5, 17, 18, 19, 20, 5, 17, 18, 19, 20, 36, 6, 21, 22, 23, 7, 24, 25, 26, 27, 28, 8, 29, 30, 31, 9, 32, 33, 34, 5, 17, 18, 19, 20, 5, 17, 18, 19, 20, 5, 17, 18, 19, 20, 5, 17, 18, 19, 20, 5, 17, 18, 19, 20, 5, 17, 18, 19, 20, 5, 17, 18, 19, 20] (h0 + 1) H := tS.app3 3 sg_3 sj_137 rfl rfl
  have hT : tS D (gF cI cL cC 0 0 0 (fun _ => 0) (fun _ => 0)) [2, 10, 11, 3, 12, 13, 14, 3, 12, 13, 14, 3, 12, 13, 14, 4, 15, 16, 4, 15, 16, 35, 5, 17, 18, 19, 20, 5, 17, 18, 19, 20, 5, 17, 18, 19, 20, 36, 6, 21, 22, 23, 7, 24, 25, 26, 27, 28, 8, 29, 30, 31, 9, 32, 33, 34, 5, 17, 18, 19, 20, 5, 17, 18, 19, 20, 5, 17, 18, 19, 20, 5, 17, 18, 19, 20, 5, 17, 18, 19, 20, 5, 17, 18, 19, 20, 5, 17, 18, 19, 20] (h0 + 1) H := sj_138
  have hT : tS D (gF cI cL cC 0 0 0 (fun _ => 0) (fun _ => 0)) [1, 2, 10, 11, 3, 12, 13, 14, 3, 12, 13, 14, 3, 12, 13, 14, 4, 15, 16, 4, 15, 16, 35, 5, 17, 18, 19, 20, 5, 17, 18, 19, 20, 5, 17, 18, 19, 20, 36, 6, 21, 22, 23, 7, 24, 25, 26, 27, 28, 8, 29, 30, 31, 9, 32, 33, 34, 5, 17, 18, 19, 20, 5, 17, 18, 19, 20, 5, 17, 18, 19, 20, 5, 17, 18, 19, 20, 5, 17, 18, 19, 20, 5, 17, 18, 19, 20, 5, 17, 18, 19, 20] h0 H := tS.cons at0 hT (fun t h1 ht => ⟨h0 + 1, h0 + 4, h0 + 8, h0 + 12, 0, 0, h0 + 16, h0 + 19, h0 + 22, h0 + 23, h0 + 28, h0 + 33, h0 + 38, 0, h0 + 39, h0 + 43, h0 + 49, h0 + 53, rfl, (ht 0 (by decide)), (ht 3 (by decide)), (ht 7 (by decide)), (ht 11 (by decide)), (ht 15 (by decide)), (ht 18 (by decide)), (ht 21 (by decide)), (ht 22 (by decide)), (ht 27 (by decide)), (ht 32 (by decide)), (ht 37 (by decide)), (by decide), (ht 38 (by decide)), (ht 42 (by decide)), (ht 48 (by decide)), (ht 52 (by decide))⟩)
  exact W.vret hx hb hr (fun u hu _ => ⟨rfl, by rw [hu]; exact hT, by rw [hu, hz]; rfl, by rw [hu]; exact hS.2.1⟩) hS.2.2 dX9_init_204 hlk
