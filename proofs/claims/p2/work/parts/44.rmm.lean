set_option maxRecDepth 20000 in
theorem ggX10_init_X10_forgets : GoodIn wsX10_init wsX10_forgets := goodIn_r _ [33, 15, 17, 22, 34, 35, 36, 37, 38, 39, 40, 41, 42, 43, 44, 45, 46, 47, 48, 49, 50, 51, 52, 53, 54, 55, 56, 57, 58, 59, 60, 61, 62, 63, 64, 65, 66, 67, 68, 69] (by decide +kernel) (by decide +kernel)
set_option maxRecDepth 20000 in
theorem gX10_init_X10_forgets : GoodIn wsX10_init (wsV RX10 80 RX10 yX10_forgets wsX10_forgets) := goodIn_app (goodIn_of _ (by decide +kernel)) ggX10_init_X10_forgets
theorem dX10_init_0 : decode cX10_init 0 = .ok (.aload_n 0, 1) := by decide +kernel
theorem dX10_init_1 : decode cX10_init 1 = .ok (.invokespecial 1, 3) := by decide +kernel
theorem dX10_init_4 : decode cX10_init 4 = .ok (.aload_n 0, 1) := by decide +kernel
theorem dX10_init_5 : decode cX10_init 5 = .ok (.sipush 400, 3) := by decide +kernel
theorem dX10_init_8 : decode cX10_init 8 = .ok (.newarray .int, 2) := by decide +kernel
theorem dX10_init_10 : decode cX10_init 10 = .ok (.putfield 7, 3) := by decide +kernel
theorem dX10_init_13 : decode cX10_init 13 = .ok (.aload_n 0, 1) := by decide +kernel
theorem dX10_init_14 : decode cX10_init 14 = .ok (.bipush 120, 2) := by decide +kernel
theorem dX10_init_16 : decode cX10_init 16 = .ok (.newarray .int, 2) := by decide +kernel
theorem dX10_init_18 : decode cX10_init 18 = .ok (.putfield 13, 3) := by decide +kernel
theorem dX10_init_21 : decode cX10_init 21 = .ok (.aload_n 0, 1) := by decide +kernel
theorem dX10_init_22 : decode cX10_init 22 = .ok (.bipush 120, 2) := by decide +kernel
theorem dX10_init_24 : decode cX10_init 24 = .ok (.newarray .int, 2) := by decide +kernel
theorem dX10_init_26 : decode cX10_init 26 = .ok (.putfield 16, 3) := by decide +kernel
theorem dX10_init_29 : decode cX10_init 29 = .ok (.aload_n 0, 1) := by decide +kernel
theorem dX10_init_30 : decode cX10_init 30 = .ok (.bipush 120, 2) := by decide +kernel
theorem dX10_init_32 : decode cX10_init 32 = .ok (.newarray .int, 2) := by decide +kernel
theorem dX10_init_34 : decode cX10_init 34 = .ok (.putfield 19, 3) := by decide +kernel
theorem dX10_init_37 : decode cX10_init 37 = .ok (.aload_n 0, 1) := by decide +kernel
theorem dX10_init_38 : decode cX10_init 38 = .ok (.sipush 360, 3) := by decide +kernel
theorem dX10_init_41 : decode cX10_init 41 = .ok (.newarray .int, 2) := by decide +kernel
theorem dX10_init_43 : decode cX10_init 43 = .ok (.putfield 22, 3) := by decide +kernel
theorem dX10_init_46 : decode cX10_init 46 = .ok (.aload_n 0, 1) := by decide +kernel
theorem dX10_init_47 : decode cX10_init 47 = .ok (.sipush 384, 3) := by decide +kernel
theorem dX10_init_50 : decode cX10_init 50 = .ok (.newarray .int, 2) := by decide +kernel
theorem dX10_init_52 : decode cX10_init 52 = .ok (.putfield 25, 3) := by decide +kernel
theorem dX10_init_55 : decode cX10_init 55 = .ok (.aload_n 0, 1) := by decide +kernel
theorem dX10_init_56 : decode cX10_init 56 = .ok (.sipush 280, 3) := by decide +kernel
theorem dX10_init_59 : decode cX10_init 59 = .ok (.newarray .long, 2) := by decide +kernel
theorem dX10_init_61 : decode cX10_init 61 = .ok (.putfield 28, 3) := by decide +kernel
theorem dX10_init_64 : decode cX10_init 64 = .ok (.aload_n 0, 1) := by decide +kernel
theorem dX10_init_65 : decode cX10_init 65 = .ok (.sipush 280, 3) := by decide +kernel
theorem dX10_init_68 : decode cX10_init 68 = .ok (.newarray .long, 2) := by decide +kernel
theorem dX10_init_70 : decode cX10_init 70 = .ok (.putfield 32, 3) := by decide +kernel
theorem dX10_init_73 : decode cX10_init 73 = .ok (.aload_n 0, 1) := by decide +kernel
theorem dX10_init_74 : decode cX10_init 74 = .ok (.sipush 840, 3) := by decide +kernel
theorem dX10_init_77 : decode cX10_init 77 = .ok (.newarray .long, 2) := by decide +kernel
theorem dX10_init_79 : decode cX10_init 79 = .ok (.putfield 35, 3) := by decide +kernel
theorem dX10_init_82 : decode cX10_init 82 = .ok (.aload_n 0, 1) := by decide +kernel
theorem dX10_init_83 : decode cX10_init 83 = .ok (.iconst 4, 1) := by decide +kernel
theorem dX10_init_84 : decode cX10_init 84 = .ok (.newarray .int, 2) := by decide +kernel
theorem dX10_init_86 : decode cX10_init 86 = .ok (.putfield 38, 3) := by decide +kernel
theorem dX10_init_89 : decode cX10_init 89 = .ok (.aload_n 0, 1) := by decide +kernel
theorem dX10_init_90 : decode cX10_init 90 = .ok (.iconst 4, 1) := by decide +kernel
theorem dX10_init_91 : decode cX10_init 91 = .ok (.newarray .int, 2) := by decide +kernel
theorem dX10_init_93 : decode cX10_init 93 = .ok (.putfield 41, 3) := by decide +kernel
theorem dX10_init_96 : decode cX10_init 96 = .ok (.aload_n 0, 1) := by decide +kernel
theorem dX10_init_97 : decode cX10_init 97 = .ok (.sipush 384, 3) := by decide +kernel
theorem dX10_init_100 : decode cX10_init 100 = .ok (.newarray .int, 2) := by decide +kernel
theorem dX10_init_102 : decode cX10_init 102 = .ok (.putfield 44, 3) := by decide +kernel
theorem dX10_init_105 : decode cX10_init 105 = .ok (.aload_n 0, 1) := by decide +kernel
theorem dX10_init_106 : decode cX10_init 106 = .ok (.iconst 2, 1) := by decide +kernel
theorem dX10_init_107 : decode cX10_init 107 = .ok (.newarray .int, 2) := by decide +kernel
theorem dX10_init_109 : decode cX10_init 109 = .ok (.putfield 47, 3) := by decide +kernel
theorem dX10_init_112 : decode cX10_init 112 = .ok (.aload_n 0, 1) := by decide +kernel
theorem dX10_init_113 : decode cX10_init 113 = .ok (.iconst 2, 1) := by decide +kernel
theorem dX10_init_114 : decode cX10_init 114 = .ok (.newarray .int, 2) := by decide +kernel
theorem dX10_init_116 : decode cX10_init 116 = .ok (.putfield 50, 3) := by decide +kernel
theorem dX10_init_119 : decode cX10_init 119 = .ok (.aload_n 0, 1) := by decide +kernel
theorem dX10_init_120 : decode cX10_init 120 = .ok (.iconst 2, 1) := by decide +kernel
theorem dX10_init_121 : decode cX10_init 121 = .ok (.newarray .int, 2) := by decide +kernel
theorem dX10_init_123 : decode cX10_init 123 = .ok (.putfield 53, 3) := by decide +kernel
theorem dX10_init_126 : decode cX10_init 126 = .ok (.aload_n 0, 1) := by decide +kernel
theorem dX10_init_127 : decode cX10_init 127 = .ok (.iconst 2, 1) := by decide +kernel
theorem dX10_init_128 : decode cX10_init 128 = .ok (.newarray .int, 2) := by decide +kernel
theorem dX10_init_130 : decode cX10_init 130 = .ok (.putfield 56, 3) := by decide +kernel
theorem dX10_init_133 : decode cX10_init 133 = .ok (.aload_n 0, 1) := by decide +kernel
theorem dX10_init_134 : decode cX10_init 134 = .ok (.iconst 2, 1) := by decide +kernel
theorem dX10_init_135 : decode cX10_init 135 = .ok (.newarray .int, 2) := by decide +kernel
theorem dX10_init_137 : decode cX10_init 137 = .ok (.putfield 59, 3) := by decide +kernel
theorem dX10_init_140 : decode cX10_init 140 = .ok (.aload_n 0, 1) := by decide +kernel
theorem dX10_init_141 : decode cX10_init 141 = .ok (.iconst 4, 1) := by decide +kernel
theorem dX10_init_142 : decode cX10_init 142 = .ok (.newarray .int, 2) := by decide +kernel
theorem dX10_init_144 : decode cX10_init 144 = .ok (.putfield 62, 3) := by decide +kernel
theorem dX10_init_147 : decode cX10_init 147 = .ok (.aload_n 0, 1) := by decide +kernel
theorem dX10_init_148 : decode cX10_init 148 = .ok (.bipush 96, 2) := by decide +kernel
theorem dX10_init_150 : decode cX10_init 150 = .ok (.newarray .int, 2) := by decide +kernel
theorem dX10_init_152 : decode cX10_init 152 = .ok (.putfield 65, 3) := by decide +kernel
theorem dX10_init_155 : decode cX10_init 155 = .ok (.aload_n 0, 1) := by decide +kernel
theorem dX10_init_156 : decode cX10_init 156 = .ok (.iconst 4, 1) := by decide +kernel
theorem dX10_init_157 : decode cX10_init 157 = .ok (.newarray .int, 2) := by decide +kernel
theorem dX10_init_159 : decode cX10_init 159 = .ok (.putfield 68, 3) := by decide +kernel
theorem dX10_init_162 : decode cX10_init 162 = .ok (.aload_n 0, 1) := by decide +kernel
theorem dX10_init_163 : decode cX10_init 163 = .ok (.bipush 16, 2) := by decide +kernel
theorem dX10_init_165 : decode cX10_init 165 = .ok (.newarray .int, 2) := by decide +kernel
theorem dX10_init_167 : decode cX10_init 167 = .ok (.putfield 71, 3) := by decide +kernel
theorem dX10_init_170 : decode cX10_init 170 = .ok (.aload_n 0, 1) := by decide +kernel
theorem dX10_init_171 : decode cX10_init 171 = .ok (.iconst 3, 1) := by decide +kernel
theorem dX10_init_172 : decode cX10_init 172 = .ok (.newarray .int, 2) := by decide +kernel
theorem dX10_init_174 : decode cX10_init 174 = .ok (.putfield 74, 3) := by decide +kernel
theorem dX10_init_177 : decode cX10_init 177 = .ok (.aload_n 0, 1) := by decide +kernel
theorem dX10_init_178 : decode cX10_init 178 = .ok (.bipush 96, 2) := by decide +kernel
theorem dX10_init_180 : decode cX10_init 180 = .ok (.newarray .long, 2) := by decide +kernel
theorem dX10_init_182 : decode cX10_init 182 = .ok (.putfield 77, 3) := by decide +kernel
theorem dX10_init_185 : decode cX10_init 185 = .ok (.iconst 0, 1) := by decide +kernel
theorem dX10_init_186 : decode cX10_init 186 = .ok (.istore_n 1, 1) := by decide +kernel
theorem dX10_init_187 : decode cX10_init 187 = .ok (.iload_n 1, 1) := by decide +kernel
theorem dX10_init_188 : decode cX10_init 188 = .ok (.sipush 192, 3) := by decide +kernel
theorem dX10_init_191 : decode cX10_init 191 = .ok (.if_icmp .ge 21, 3) := by decide +kernel
theorem dX10_init_194 : decode cX10_init 194 = .ok (.aload_n 0, 1) := by decide +kernel
theorem dX10_init_195 : decode cX10_init 195 = .ok (.getfield 25, 3) := by decide +kernel
theorem dX10_init_198 : decode cX10_init 198 = .ok (.iconst 2, 1) := by decide +kernel
theorem dX10_init_199 : decode cX10_init 199 = .ok (.iload_n 1, 1) := by decide +kernel
theorem dX10_init_200 : decode cX10_init 200 = .ok (.imul, 1) := by decide +kernel
theorem dX10_init_201 : decode cX10_init 201 = .ok (.iconst 1, 1) := by decide +kernel
theorem dX10_init_202 : decode cX10_init 202 = .ok (.iadd, 1) := by decide +kernel
theorem dX10_init_203 : decode cX10_init 203 = .ok (.bipush 10, 2) := by decide +kernel
theorem dX10_init_205 : decode cX10_init 205 = .ok (.iastore, 1) := by decide +kernel
theorem dX10_init_206 : decode cX10_init 206 = .ok (.iinc 1 1, 3) := by decide +kernel
theorem dX10_init_209 : decode cX10_init 209 = .ok (.goto (-22), 3) := by decide +kernel
theorem dX10_init_212 : decode cX10_init 212 = .ok (.aload_n 0, 1) := by decide +kernel
theorem dX10_init_213 : decode cX10_init 213 = .ok (.invokevirtual 80, 3) := by decide +kernel
theorem dX10_init_216 : decode cX10_init 216 = .ok (.return_, 1) := by decide +kernel
set_option maxHeartbeats 4000000 in
set_option maxRecDepth 100000 in
theorem cc_X10 (l : Launch) (D : va_G) (cI cL cC : ClassId) (h0 : Nat) : Met l yX10_init wsX10_init ({ frames := 1, cells := 23, slots := 3525, locals := 21 }) (cP D cI cL cC 9 [.int 0, .null, .int 0, .int 0, .null, .null, .null, .null, .int 0, .null, .null, .null, .null, .int 0, .null, .null, .null, .int 0, .null, .null, .null, .null, .null, .null, .null, .null, .null, .int 0, .int 0, .int 0, .int 0, .int 0, .null, .int 0, .int 0, .null] h0) (cQ D (mF cI cL cC 0 0 (fun _ => 0) (fun _ => 0) (fun _ => 0) 0 0 0 (fun _ => 0) (fun _ => 0) (fun _ => 0) (fun _ => 0) 0 0 0 0 0 0 0 0 (fun _ => 0)) [40, 41, 42, 43, 44, 45, 46, 47, 48, 49, 50, 51, 52, 53, 54, 55, 56, 57, 58, 59, 60, 61, 62, 63] h0) 23 3525 (fun q => h0 ≤ q) := by
  refine cM_ofW (cc := cX10_init) (maxL := 2) (by decide) rfl rfl (by decide) ?_
  intro p e s m below meth c hx hb hr hml hown hts hlk hin hz at0 hK hE hS ls hl
  have hl : lv_has ls 2 [(0, .ref h0)] := hl
  have in10 : ∀ w ∈ wsX100, w ∈ wsX10_init := fun w h => List.mem_cons_of_mem _ (List.mem_append_right _ h)
  refine lv_aload_n hx hb dX10_init_0 rfl (lv_at hl 0 rfl) ?_
  refine W.objInit hx hb hown (hts (.methodLink RX10 1 objectInit) (List.mem_of_getElem? (i := 1) rfl)) (hts (.instanceMethod objectInit) (List.mem_of_getElem? (i := 2) rfl)) (hts (.code objectInit ⟨#[0xb1]⟩ 1 none) (List.mem_of_getElem? (i := 3) rfl)) rfl (by rw [hml]; exact hl.1) rfl dX10_init_1 (Nat.le_of_ble_eq_true rfl) (Nat.le_of_ble_eq_true rfl) ?_
  refine W.eq (g2 := F0 m 4 ls []) rfl ?_
  refine lv_aload_n hx hb dX10_init_4 rfl (lv_at hl 0 rfl) ?_
  refine lv_sipush (v := 400) hx hb dX10_init_5 (by decide) ?_
  refine nw_newI (N := 400) (z := h0 + 1) hx hb (hts (.arrayClass .int) (List.mem_of_getElem? (i := 4) rfl)) hK hS hz (Nat.le_add_right _ _) (by decide) (by decide) (by decide) (Nat.le_of_ble_eq_true rfl) (Nat.le_of_ble_eq_true rfl) dX10_init_8 (fun H at_1 hz o_2 hS => ?_)
  replace at0 := va_at.keptA (b := h0) (z := 1) 0 at0 o_2 (Nat.le_of_ble_eq_true rfl)
  clear o_2
  have hz : H.size = h0 + 2 := hz
  refine nw_putF (D := D) (ci := 9) (v := .ref (h0 + 1)) (ty := .array .int) (C := RX10) (T := TX10) (N := 36) hx hb hts in10 tyX10 tyX10_ok nmX10 hown hK hS (Nat.le_refl _) at0 rfl 1 (by decide) (hts (.fieldLink RX10 7 "RiverModelModel" "text" "[I") (List.mem_of_getElem? (i := 5) rfl)) (fun _ h9 => h9) rfl hin rfl (by decide +kernel) rfl rfl (Nat.le_of_ble_eq_true rfl) dX10_init_10 (fun H locs at0 hz_4 o_3 hS => ?_)
  have at0 : va_at D vwCl (h0, .inr (9, [.int 0, .ref (h0 + 1), .int 0, .int 0, .null, .null, .null, .null, .int 0, .null, .null, .null, .null, .int 0, .null, .null, .null, .int 0, .null, .null, .null, .null, .null, .null, .null, .null, .null, .int 0, .int 0, .int 0, .int 0, .int 0, .null, .int 0, .int 0, .null])) H := at0
  replace hz : H.size = h0 + 2 := hz_4.trans hz
  replace at_1 := va_at.keptP (b := h0) (j := 0) 1 at_1 o_3 rfl
  clear o_3 hz_4
  refine lv_aload_n hx hb dX10_init_13 rfl (lv_at hl 0 rfl) ?_
  refine lv_pc (pc2 := 14) rfl ?_
  refine lv_bipush (v := 120) hx hb dX10_init_14 (by decide) ?_
  refine nw_newI (N := 120) (z := h0 + 2) hx hb (hts (.arrayClass .int) (List.mem_of_getElem? (i := 4) rfl)) hK hS hz (Nat.le_add_right _ _) (by decide) (by decide) (by decide) (Nat.le_of_ble_eq_true rfl) (Nat.le_of_ble_eq_true rfl) dX10_init_16 (fun H at_5 hz o_6 hS => ?_)
  replace at0 := va_at.keptA (b := h0) (z := 2) 0 at0 o_6 (Nat.le_of_ble_eq_true rfl)
  replace at_1 := va_at.keptA (b := h0) (z := 2) 1 at_1 o_6 (Nat.le_of_ble_eq_true rfl)
  clear o_6
  have hz : H.size = h0 + 3 := hz
  refine nw_putF (D := D) (ci := 9) (v := .ref (h0 + 2)) (ty := .array .int) (C := RX10) (T := TX10) (N := 36) hx hb hts in10 tyX10 tyX10_ok nmX10 hown hK hS (Nat.le_refl _) at0 rfl 4 (by decide) (hts (.fieldLink RX10 13 "RiverModelModel" "kind" "[I") (List.mem_of_getElem? (i := 6) rfl)) (fun _ h9 => h9) rfl hin rfl (by decide +kernel) rfl rfl (Nat.le_of_ble_eq_true rfl) dX10_init_18 (fun H locs at0 hz_8 o_7 hS => ?_)
  have at0 : va_at D vwCl (h0, .inr (9, [.int 0, .ref (h0 + 1), .int 0, .int 0, .ref (h0 + 2), .null, .null, .null, .int 0, .null, .null, .null, .null, .int 0, .null, .null, .null, .int 0, .null, .null, .null, .null, .null, .null, .null, .null, .null, .int 0, .int 0, .int 0, .int 0, .int 0, .null, .int 0, .int 0, .null])) H := at0
  replace hz : H.size = h0 + 3 := hz_8.trans hz
  replace at_1 := va_at.keptP (b := h0) (j := 0) 1 at_1 o_7 rfl
  replace at_5 := va_at.keptP (b := h0) (j := 0) 2 at_5 o_7 rfl
  clear o_7 hz_8
  refine lv_aload_n hx hb dX10_init_21 rfl (lv_at hl 0 rfl) ?_
  refine lv_bipush (v := 120) hx hb dX10_init_22 (by decide) ?_
  refine nw_newI (N := 120) (z := h0 + 3) hx hb (hts (.arrayClass .int) (List.mem_of_getElem? (i := 4) rfl)) hK hS hz (Nat.le_add_right _ _) (by decide) (by decide) (by decide) (Nat.le_of_ble_eq_true rfl) (Nat.le_of_ble_eq_true rfl) dX10_init_24 (fun H at_9 hz o_10 hS => ?_)
  replace at0 := va_at.keptA (b := h0) (z := 3) 0 at0 o_10 (Nat.le_of_ble_eq_true rfl)
  replace at_1 := va_at.keptA (b := h0) (z := 3) 1 at_1 o_10 (Nat.le_of_ble_eq_true rfl)
  replace at_5 := va_at.keptA (b := h0) (z := 3) 2 at_5 o_10 (Nat.le_of_ble_eq_true rfl)
  clear o_10
  have hz : H.size = h0 + 4 := hz
  refine nw_putF (D := D) (ci := 9) (v := .ref (h0 + 3)) (ty := .array .int) (C := RX10) (T := TX10) (N := 36) hx hb hts in10 tyX10 tyX10_ok nmX10 hown hK hS (Nat.le_refl _) at0 rfl 5 (by decide) (hts (.fieldLink RX10 16 "RiverModelModel" "first" "[I") (List.mem_of_getElem? (i := 7) rfl)) (fun _ h9 => h9) rfl hin rfl (by decide +kernel) rfl rfl (Nat.le_of_ble_eq_true rfl) dX10_init_26 (fun H locs at0 hz_12 o_11 hS => ?_)
  have at0 : va_at D vwCl (h0, .inr (9, [.int 0, .ref (h0 + 1), .int 0, .int 0, .ref (h0 + 2), .ref (h0 + 3), .null, .null, .int 0, .null, .null, .null, .null, .int 0, .null, .null, .null, .int 0, .null, .null, .null, .null, .null, .null, .null, .null, .null, .int 0, .int 0, .int 0, .int 0, .int 0, .null, .int 0, .int 0, .null])) H := at0
  replace hz : H.size = h0 + 4 := hz_12.trans hz
  replace at_1 := va_at.keptP (b := h0) (j := 0) 1 at_1 o_11 rfl
  replace at_5 := va_at.keptP (b := h0) (j := 0) 2 at_5 o_11 rfl
  replace at_9 := va_at.keptP (b := h0) (j := 0) 3 at_9 o_11 rfl
  clear o_11 hz_12
  refine lv_aload_n hx hb dX10_init_29 rfl (lv_at hl 0 rfl) ?_
  refine lv_pc (pc2 := 30) rfl ?_
  refine lv_bipush (v := 120) hx hb dX10_init_30 (by decide) ?_
  refine nw_newI (N := 120) (z := h0 + 4) hx hb (hts (.arrayClass .int) (List.mem_of_getElem? (i := 4) rfl)) hK hS hz (Nat.le_add_right _ _) (by decide) (by decide) (by decide) (Nat.le_of_ble_eq_true rfl) (Nat.le_of_ble_eq_true rfl) dX10_init_32 (fun H at_13 hz o_14 hS => ?_)
  replace at0 := va_at.keptA (b := h0) (z := 4) 0 at0 o_14 (Nat.le_of_ble_eq_true rfl)
  replace at_1 := va_at.keptA (b := h0) (z := 4) 1 at_1 o_14 (Nat.le_of_ble_eq_true rfl)
  replace at_5 := va_at.keptA (b := h0) (z := 4) 2 at_5 o_14 (Nat.le_of_ble_eq_true rfl)
  replace at_9 := va_at.keptA (b := h0) (z := 4) 3 at_9 o_14 (Nat.le_of_ble_eq_true rfl)
  clear o_14
  have hz : H.size = h0 + 5 := hz
  refine nw_putF (D := D) (ci := 9) (v := .ref (h0 + 4)) (ty := .array .int) (C := RX10) (T := TX10) (N := 36) hx hb hts in10 tyX10 tyX10_ok nmX10 hown hK hS (Nat.le_refl _) at0 rfl 6 (by decide) (hts (.fieldLink RX10 19 "RiverModelModel" "second" "[I") (List.mem_of_getElem? (i := 8) rfl)) (fun _ h9 => h9) rfl hin rfl (by decide +kernel) rfl rfl (Nat.le_of_ble_eq_true rfl) dX10_init_34 (fun H locs at0 hz_16 o_15 hS => ?_)
  have at0 : va_at D vwCl (h0, .inr (9, [.int 0, .ref (h0 + 1), .int 0, .int 0, .ref (h0 + 2), .ref (h0 + 3), .ref (h0 + 4), .null, .int 0, .null, .null, .null, .null, .int 0, .null, .null, .null, .int 0, .null, .null, .null, .null, .null, .null, .null, .null, .null, .int 0, .int 0, .int 0, .int 0, .int 0, .null, .int 0, .int 0, .null])) H := at0
  replace hz : H.size = h0 + 5 := hz_16.trans hz
  replace at_1 := va_at.keptP (b := h0) (j := 0) 1 at_1 o_15 rfl
  replace at_5 := va_at.keptP (b := h0) (j := 0) 2 at_5 o_15 rfl
  replace at_9 := va_at.keptP (b := h0) (j := 0) 3 at_9 o_15 rfl
  replace at_13 := va_at.keptP (b := h0) (j := 0) 4 at_13 o_15 rfl
  clear o_15 hz_16
  refine lv_aload_n hx hb dX10_init_37 rfl (lv_at hl 0 rfl) ?_
  refine lv_sipush (v := 360) hx hb dX10_init_38 (by decide) ?_
  refine nw_newI (N := 360) (z := h0 + 5) hx hb (hts (.arrayClass .int) (List.mem_of_getElem? (i := 4) rfl)) hK hS hz (Nat.le_add_right _ _) (by decide) (by decide) (by decide) (Nat.le_of_ble_eq_true rfl) (Nat.le_of_ble_eq_true rfl) dX10_init_41 (fun H at_17 hz o_18 hS => ?_)
  replace at0 := va_at.keptA (b := h0) (z := 5) 0 at0 o_18 (Nat.le_of_ble_eq_true rfl)
  replace at_1 := va_at.keptA (b := h0) (z := 5) 1 at_1 o_18 (Nat.le_of_ble_eq_true rfl)
  replace at_5 := va_at.keptA (b := h0) (z := 5) 2 at_5 o_18 (Nat.le_of_ble_eq_true rfl)
  replace at_9 := va_at.keptA (b := h0) (z := 5) 3 at_9 o_18 (Nat.le_of_ble_eq_true rfl)
  replace at_13 := va_at.keptA (b := h0) (z := 5) 4 at_13 o_18 (Nat.le_of_ble_eq_true rfl)
  clear o_18
  have hz : H.size = h0 + 6 := hz
  refine nw_putF (D := D) (ci := 9) (v := .ref (h0 + 5)) (ty := .array .int) (C := RX10) (T := TX10) (N := 36) hx hb hts in10 tyX10 tyX10_ok nmX10 hown hK hS (Nat.le_refl _) at0 rfl 7 (by decide) (hts (.fieldLink RX10 22 "RiverModelModel" "number" "[I") (List.mem_of_getElem? (i := 9) rfl)) (fun _ h9 => h9) rfl hin rfl (by decide +kernel) rfl rfl (Nat.le_of_ble_eq_true rfl) dX10_init_43 (fun H locs at0 hz_20 o_19 hS => ?_)
  have at0 : va_at D vwCl (h0, .inr (9, [.int 0, .ref (h0 + 1), .int 0, .int 0, .ref (h0 + 2), .ref (h0 + 3), .ref (h0 + 4), .ref (h0 + 5), .int 0, .null, .null, .null, .null, .int 0, .null, .null, .null, .int 0, .null, .null, .null, .null, .null, .null, .null, .null, .null, .int 0, .int 0, .int 0, .int 0, .int 0, .null, .int 0, .int 0, .null])) H := at0
  replace hz : H.size = h0 + 6 := hz_20.trans hz
  replace at_1 := va_at.keptP (b := h0) (j := 0) 1 at_1 o_19 rfl
  replace at_5 := va_at.keptP (b := h0) (j := 0) 2 at_5 o_19 rfl
  replace at_9 := va_at.keptP (b := h0) (j := 0) 3 at_9 o_19 rfl
  replace at_13 := va_at.keptP (b := h0) (j := 0) 4 at_13 o_19 rfl
  replace at_17 := va_at.keptP (b := h0) (j := 0) 5 at_17 o_19 rfl
  clear o_19 hz_20
  refine lv_aload_n hx hb dX10_init_46 rfl (lv_at hl 0 rfl) ?_
  refine lv_pc (pc2 := 47) rfl ?_
  refine lv_sipush (v := 384) hx hb dX10_init_47 (by decide) ?_
  refine nw_newI (N := 384) (z := h0 + 6) hx hb (hts (.arrayClass .int) (List.mem_of_getElem? (i := 4) rfl)) hK hS hz (Nat.le_add_right _ _) (by decide) (by decide) (by decide) (Nat.le_of_ble_eq_true rfl) (Nat.le_of_ble_eq_true rfl) dX10_init_50 (fun H at_21 hz o_22 hS => ?_)
  replace at0 := va_at.keptA (b := h0) (z := 6) 0 at0 o_22 (Nat.le_of_ble_eq_true rfl)
  replace at_1 := va_at.keptA (b := h0) (z := 6) 1 at_1 o_22 (Nat.le_of_ble_eq_true rfl)
  replace at_5 := va_at.keptA (b := h0) (z := 6) 2 at_5 o_22 (Nat.le_of_ble_eq_true rfl)
  replace at_9 := va_at.keptA (b := h0) (z := 6) 3 at_9 o_22 (Nat.le_of_ble_eq_true rfl)
  replace at_13 := va_at.keptA (b := h0) (z := 6) 4 at_13 o_22 (Nat.le_of_ble_eq_true rfl)
  replace at_17 := va_at.keptA (b := h0) (z := 6) 5 at_17 o_22 (Nat.le_of_ble_eq_true rfl)
  clear o_22
  have hz : H.size = h0 + 7 := hz
  refine nw_putF (D := D) (ci := 9) (v := .ref (h0 + 6)) (ty := .array .int) (C := RX10) (T := TX10) (N := 36) hx hb hts in10 tyX10 tyX10_ok nmX10 hown hK hS (Nat.le_refl _) at0 rfl 9 (by decide) (hts (.fieldLink RX10 25 "RiverModelModel" "weather" "[I") (List.mem_of_getElem? (i := 10) rfl)) (fun _ h9 => h9) rfl hin rfl (by decide +kernel) rfl rfl (Nat.le_of_ble_eq_true rfl) dX10_init_52 (fun H locs at0 hz_24 o_23 hS => ?_)
  have at0 : va_at D vwCl (h0, .inr (9, [.int 0, .ref (h0 + 1), .int 0, .int 0, .ref (h0 + 2), .ref (h0 + 3), .ref (h0 + 4), .ref (h0 + 5), .int 0, .ref (h0 + 6), .null, .null, .null, .int 0, .null, .null, .null, .int 0, .null, .null, .null, .null, .null, .null, .null, .null, .null, .int 0, .int 0, .int 0, .int 0, .int 0, .null, .int 0, .int 0, .null])) H := at0
  replace hz : H.size = h0 + 7 := hz_24.trans hz
  replace at_1 := va_at.keptP (b := h0) (j := 0) 1 at_1 o_23 rfl
  replace at_5 := va_at.keptP (b := h0) (j := 0) 2 at_5 o_23 rfl
  replace at_9 := va_at.keptP (b := h0) (j := 0) 3 at_9 o_23 rfl
  replace at_13 := va_at.keptP (b := h0) (j := 0) 4 at_13 o_23 rfl
  replace at_17 := va_at.keptP (b := h0) (j := 0) 5 at_17 o_23 rfl
  replace at_21 := va_at.keptP (b := h0) (j := 0) 6 at_21 o_23 rfl
  clear o_23 hz_24
  refine lv_aload_n hx hb dX10_init_55 rfl (lv_at hl 0 rfl) ?_
  refine lv_sipush (v := 280) hx hb dX10_init_56 (by decide) ?_
  refine nw_newL (N := 280) (z := h0 + 7) hx hb (hts (.arrayClass .long) (List.mem_of_getElem? (i := 11) rfl)) hK hS hz (Nat.le_add_right _ _) (by decide) (by decide) (by decide) (Nat.le_of_ble_eq_true rfl) (Nat.le_of_ble_eq_true rfl) dX10_init_59 (fun H at_25 hz o_26 hS => ?_)
  replace at0 := va_at.keptA (b := h0) (z := 7) 0 at0 o_26 (Nat.le_of_ble_eq_true rfl)
  replace at_1 := va_at.keptA (b := h0) (z := 7) 1 at_1 o_26 (Nat.le_of_ble_eq_true rfl)
  replace at_5 := va_at.keptA (b := h0) (z := 7) 2 at_5 o_26 (Nat.le_of_ble_eq_true rfl)
  replace at_9 := va_at.keptA (b := h0) (z := 7) 3 at_9 o_26 (Nat.le_of_ble_eq_true rfl)
  replace at_13 := va_at.keptA (b := h0) (z := 7) 4 at_13 o_26 (Nat.le_of_ble_eq_true rfl)
  replace at_17 := va_at.keptA (b := h0) (z := 7) 5 at_17 o_26 (Nat.le_of_ble_eq_true rfl)
  replace at_21 := va_at.keptA (b := h0) (z := 7) 6 at_21 o_26 (Nat.le_of_ble_eq_true rfl)
  clear o_26
  have hz : H.size = h0 + 8 := hz
  refine nw_putF (D := D) (ci := 9) (v := .ref (h0 + 7)) (ty := .array .long) (C := RX10) (T := TX10) (N := 36) hx hb hts in10 tyX10 tyX10_ok nmX10 hown hK hS (Nat.le_refl _) at0 rfl 10 (by decide) (hts (.fieldLink RX10 28 "RiverModelModel" "m" "[J") (List.mem_of_getElem? (i := 12) rfl)) (fun _ h9 => h9) rfl hin rfl (by decide +kernel) rfl rfl (Nat.le_of_ble_eq_true rfl) dX10_init_61 (fun H locs at0 hz_28 o_27 hS => ?_)
  have at0 : va_at D vwCl (h0, .inr (9, [.int 0, .ref (h0 + 1), .int 0, .int 0, .ref (h0 + 2), .ref (h0 + 3), .ref (h0 + 4), .ref (h0 + 5), .int 0, .ref (h0 + 6), .ref (h0 + 7), .null, .null, .int 0, .null, .null, .null, .int 0, .null, .null, .null, .null, .null, .null, .null, .null, .null, .int 0, .int 0, .int 0, .int 0, .int 0, .null, .int 0, .int 0, .null])) H := at0
  replace hz : H.size = h0 + 8 := hz_28.trans hz
  replace at_1 := va_at.keptP (b := h0) (j := 0) 1 at_1 o_27 rfl
  replace at_5 := va_at.keptP (b := h0) (j := 0) 2 at_5 o_27 rfl
  replace at_9 := va_at.keptP (b := h0) (j := 0) 3 at_9 o_27 rfl
  replace at_13 := va_at.keptP (b := h0) (j := 0) 4 at_13 o_27 rfl
  replace at_17 := va_at.keptP (b := h0) (j := 0) 5 at_17 o_27 rfl
  replace at_21 := va_at.keptP (b := h0) (j := 0) 6 at_21 o_27 rfl
  replace at_25 := va_at.keptP (b := h0) (j := 0) 7 at_25 o_27 rfl
  clear o_27 hz_28
  refine lv_aload_n hx hb dX10_init_64 rfl (lv_at hl 0 rfl) ?_
  refine lv_pc (pc2 := 65) rfl ?_
  refine lv_sipush (v := 280) hx hb dX10_init_65 (by decide) ?_
  refine nw_newL (N := 280) (z := h0 + 8) hx hb (hts (.arrayClass .long) (List.mem_of_getElem? (i := 11) rfl)) hK hS hz (Nat.le_add_right _ _) (by decide) (by decide) (by decide) (Nat.le_of_ble_eq_true rfl) (Nat.le_of_ble_eq_true rfl) dX10_init_68 (fun H at_29 hz o_30 hS => ?_)
  replace at0 := va_at.keptA (b := h0) (z := 8) 0 at0 o_30 (Nat.le_of_ble_eq_true rfl)
  replace at_1 := va_at.keptA (b := h0) (z := 8) 1 at_1 o_30 (Nat.le_of_ble_eq_true rfl)
  replace at_5 := va_at.keptA (b := h0) (z := 8) 2 at_5 o_30 (Nat.le_of_ble_eq_true rfl)
  replace at_9 := va_at.keptA (b := h0) (z := 8) 3 at_9 o_30 (Nat.le_of_ble_eq_true rfl)
  replace at_13 := va_at.keptA (b := h0) (z := 8) 4 at_13 o_30 (Nat.le_of_ble_eq_true rfl)
  replace at_17 := va_at.keptA (b := h0) (z := 8) 5 at_17 o_30 (Nat.le_of_ble_eq_true rfl)
  replace at_21 := va_at.keptA (b := h0) (z := 8) 6 at_21 o_30 (Nat.le_of_ble_eq_true rfl)
  replace at_25 := va_at.keptA (b := h0) (z := 8) 7 at_25 o_30 (Nat.le_of_ble_eq_true rfl)
  clear o_30
  have hz : H.size = h0 + 9 := hz
  refine nw_putF (D := D) (ci := 9) (v := .ref (h0 + 8)) (ty := .array .long) (C := RX10) (T := TX10) (N := 36) hx hb hts in10 tyX10 tyX10_ok nmX10 hown hK hS (Nat.le_refl _) at0 rfl 11 (by decide) (hts (.fieldLink RX10 32 "RiverModelModel" "aside" "[J") (List.mem_of_getElem? (i := 13) rfl)) (fun _ h9 => h9) rfl hin rfl (by decide +kernel) rfl rfl (Nat.le_of_ble_eq_true rfl) dX10_init_70 (fun H locs at0 hz_32 o_31 hS => ?_)
  have at0 : va_at D vwCl (h0, .inr (9, [.int 0, .ref (h0 + 1), .int 0, .int 0, .ref (h0 + 2), .ref (h0 + 3), .ref (h0 + 4), .ref (h0 + 5), .int 0, .ref (h0 + 6), .ref (h0 + 7), .ref (h0 + 8), .null, .int 0, .null, .null, .null, .int 0, .null, .null, .null, .null, .null, .null, .null, .null, .null, .int 0, .int 0, .int 0, .int 0, .int 0, .null, .int 0, .int 0, .null])) H := at0
  replace hz : H.size = h0 + 9 := hz_32.trans hz
  replace at_1 := va_at.keptP (b := h0) (j := 0) 1 at_1 o_31 rfl
  replace at_5 := va_at.keptP (b := h0) (j := 0) 2 at_5 o_31 rfl
  replace at_9 := va_at.keptP (b := h0) (j := 0) 3 at_9 o_31 rfl
  replace at_13 := va_at.keptP (b := h0) (j := 0) 4 at_13 o_31 rfl
  replace at_17 := va_at.keptP (b := h0) (j := 0) 5 at_17 o_31 rfl
  replace at_21 := va_at.keptP (b := h0) (j := 0) 6 at_21 o_31 rfl
  replace at_25 := va_at.keptP (b := h0) (j := 0) 7 at_25 o_31 rfl
  replace at_29 := va_at.keptP (b := h0) (j := 0) 8 at_29 o_31 rfl
  clear o_31 hz_32
  refine lv_aload_n hx hb dX10_init_73 rfl (lv_at hl 0 rfl) ?_
  refine lv_sipush (v := 840) hx hb dX10_init_74 (by decide) ?_
  refine nw_newL (N := 840) (z := h0 + 9) hx hb (hts (.arrayClass .long) (List.mem_of_getElem? (i := 11) rfl)) hK hS hz (Nat.le_add_right _ _) (by decide) (by decide) (by decide) (Nat.le_of_ble_eq_true rfl) (Nat.le_of_ble_eq_true rfl) dX10_init_77 (fun H at_33 hz o_34 hS => ?_)
  replace at0 := va_at.keptA (b := h0) (z := 9) 0 at0 o_34 (Nat.le_of_ble_eq_true rfl)
  replace at_1 := va_at.keptA (b := h0) (z := 9) 1 at_1 o_34 (Nat.le_of_ble_eq_true rfl)
  replace at_5 := va_at.keptA (b := h0) (z := 9) 2 at_5 o_34 (Nat.le_of_ble_eq_true rfl)
  replace at_9 := va_at.keptA (b := h0) (z := 9) 3 at_9 o_34 (Nat.le_of_ble_eq_true rfl)
  replace at_13 := va_at.keptA (b := h0) (z := 9) 4 at_13 o_34 (Nat.le_of_ble_eq_true rfl)
  replace at_17 := va_at.keptA (b := h0) (z := 9) 5 at_17 o_34 (Nat.le_of_ble_eq_true rfl)
  replace at_21 := va_at.keptA (b := h0) (z := 9) 6 at_21 o_34 (Nat.le_of_ble_eq_true rfl)
  replace at_25 := va_at.keptA (b := h0) (z := 9) 7 at_25 o_34 (Nat.le_of_ble_eq_true rfl)
  replace at_29 := va_at.keptA (b := h0) (z := 9) 8 at_29 o_34 (Nat.le_of_ble_eq_true rfl)
  clear o_34
  have hz : H.size = h0 + 10 := hz
  refine nw_putF (D := D) (ci := 9) (v := .ref (h0 + 9)) (ty := .array .long) (C := RX10) (T := TX10) (N := 36) hx hb hts in10 tyX10 tyX10_ok nmX10 hown hK hS (Nat.le_refl _) at0 rfl 12 (by decide) (hts (.fieldLink RX10 35 "RiverModelModel" "kept" "[J") (List.mem_of_getElem? (i := 14) rfl)) (fun _ h9 => h9) rfl hin rfl (by decide +kernel) rfl rfl (Nat.le_of_ble_eq_true rfl) dX10_init_79 (fun H locs at0 hz_36 o_35 hS => ?_)
  have at0 : va_at D vwCl (h0, .inr (9, [.int 0, .ref (h0 + 1), .int 0, .int 0, .ref (h0 + 2), .ref (h0 + 3), .ref (h0 + 4), .ref (h0 + 5), .int 0, .ref (h0 + 6), .ref (h0 + 7), .ref (h0 + 8), .ref (h0 + 9), .int 0, .null, .null, .null, .int 0, .null, .null, .null, .null, .null, .null, .null, .null, .null, .int 0, .int 0, .int 0, .int 0, .int 0, .null, .int 0, .int 0, .null])) H := at0
  replace hz : H.size = h0 + 10 := hz_36.trans hz
  replace at_1 := va_at.keptP (b := h0) (j := 0) 1 at_1 o_35 rfl
  replace at_5 := va_at.keptP (b := h0) (j := 0) 2 at_5 o_35 rfl
  replace at_9 := va_at.keptP (b := h0) (j := 0) 3 at_9 o_35 rfl
  replace at_13 := va_at.keptP (b := h0) (j := 0) 4 at_13 o_35 rfl
  replace at_17 := va_at.keptP (b := h0) (j := 0) 5 at_17 o_35 rfl
  replace at_21 := va_at.keptP (b := h0) (j := 0) 6 at_21 o_35 rfl
  replace at_25 := va_at.keptP (b := h0) (j := 0) 7 at_25 o_35 rfl
  replace at_29 := va_at.keptP (b := h0) (j := 0) 8 at_29 o_35 rfl
  replace at_33 := va_at.keptP (b := h0) (j := 0) 9 at_33 o_35 rfl
  clear o_35 hz_36
  refine lv_aload_n hx hb dX10_init_82 rfl (lv_at hl 0 rfl) ?_
  refine lv_pc (pc2 := 83) rfl ?_
  refine lv_iconst (v := 4) hx hb dX10_init_83 (by decide) ?_
  refine nw_newI (N := 4) (z := h0 + 10) hx hb (hts (.arrayClass .int) (List.mem_of_getElem? (i := 4) rfl)) hK hS hz (Nat.le_add_right _ _) (by decide) (by decide) (by decide) (Nat.le_of_ble_eq_true rfl) (Nat.le_of_ble_eq_true rfl) dX10_init_84 (fun H at_37 hz o_38 hS => ?_)
  replace at0 := va_at.keptA (b := h0) (z := 10) 0 at0 o_38 (Nat.le_of_ble_eq_true rfl)
  replace at_1 := va_at.keptA (b := h0) (z := 10) 1 at_1 o_38 (Nat.le_of_ble_eq_true rfl)
  replace at_5 := va_at.keptA (b := h0) (z := 10) 2 at_5 o_38 (Nat.le_of_ble_eq_true rfl)
  replace at_9 := va_at.keptA (b := h0) (z := 10) 3 at_9 o_38 (Nat.le_of_ble_eq_true rfl)
  replace at_13 := va_at.keptA (b := h0) (z := 10) 4 at_13 o_38 (Nat.le_of_ble_eq_true rfl)
  replace at_17 := va_at.keptA (b := h0) (z := 10) 5 at_17 o_38 (Nat.le_of_ble_eq_true rfl)
  replace at_21 := va_at.keptA (b := h0) (z := 10) 6 at_21 o_38 (Nat.le_of_ble_eq_true rfl)
  replace at_25 := va_at.keptA (b := h0) (z := 10) 7 at_25 o_38 (Nat.le_of_ble_eq_true rfl)
  replace at_29 := va_at.keptA (b := h0) (z := 10) 8 at_29 o_38 (Nat.le_of_ble_eq_true rfl)
  replace at_33 := va_at.keptA (b := h0) (z := 10) 9 at_33 o_38 (Nat.le_of_ble_eq_true rfl)
  clear o_38
  have hz : H.size = h0 + 11 := hz
  refine nw_putF (D := D) (ci := 9) (v := .ref (h0 + 10)) (ty := .array .int) (C := RX10) (T := TX10) (N := 36) hx hb hts in10 tyX10 tyX10_ok nmX10 hown hK hS (Nat.le_refl _) at0 rfl 14 (by decide) (hts (.fieldLink RX10 38 "RiverModelModel" "gaugeKind" "[I") (List.mem_of_getElem? (i := 15) rfl)) (fun _ h9 => h9) rfl hin rfl (by decide +kernel) rfl rfl (Nat.le_of_ble_eq_true rfl) dX10_init_86 (fun H locs at0 hz_40 o_39 hS => ?_)
  have at0 : va_at D vwCl (h0, .inr (9, [.int 0, .ref (h0 + 1), .int 0, .int 0, .ref (h0 + 2), .ref (h0 + 3), .ref (h0 + 4), .ref (h0 + 5), .int 0, .ref (h0 + 6), .ref (h0 + 7), .ref (h0 + 8), .ref (h0 + 9), .int 0, .ref (h0 + 10), .null, .null, .int 0, .null, .null, .null, .null, .null, .null, .null, .null, .null, .int 0, .int 0, .int 0, .int 0, .int 0, .null, .int 0, .int 0, .null])) H := at0
  replace hz : H.size = h0 + 11 := hz_40.trans hz
  replace at_1 := va_at.keptP (b := h0) (j := 0) 1 at_1 o_39 rfl
  replace at_5 := va_at.keptP (b := h0) (j := 0) 2 at_5 o_39 rfl
  replace at_9 := va_at.keptP (b := h0) (j := 0) 3 at_9 o_39 rfl
  replace at_13 := va_at.keptP (b := h0) (j := 0) 4 at_13 o_39 rfl
  replace at_17 := va_at.keptP (b := h0) (j := 0) 5 at_17 o_39 rfl
  replace at_21 := va_at.keptP (b := h0) (j := 0) 6 at_21 o_39 rfl
  replace at_25 := va_at.keptP (b := h0) (j := 0) 7 at_25 o_39 rfl
  replace at_29 := va_at.keptP (b := h0) (j := 0) 8 at_29 o_39 rfl
  replace at_33 := va_at.keptP (b := h0) (j := 0) 9 at_33 o_39 rfl
  replace at_37 := va_at.keptP (b := h0) (j := 0) 10 at_37 o_39 rfl
  clear o_39 hz_40
  refine lv_aload_n hx hb dX10_init_89 rfl (lv_at hl 0 rfl) ?_
  refine lv_iconst (v := 4) hx hb dX10_init_90 (by decide) ?_
  refine nw_newI (N := 4) (z := h0 + 11) hx hb (hts (.arrayClass .int) (List.mem_of_getElem? (i := 4) rfl)) hK hS hz (Nat.le_add_right _ _) (by decide) (by decide) (by decide) (Nat.le_of_ble_eq_true rfl) (Nat.le_of_ble_eq_true rfl) dX10_init_91 (fun H at_41 hz o_42 hS => ?_)
  replace at0 := va_at.keptA (b := h0) (z := 11) 0 at0 o_42 (Nat.le_of_ble_eq_true rfl)
  replace at_1 := va_at.keptA (b := h0) (z := 11) 1 at_1 o_42 (Nat.le_of_ble_eq_true rfl)
  replace at_5 := va_at.keptA (b := h0) (z := 11) 2 at_5 o_42 (Nat.le_of_ble_eq_true rfl)
  replace at_9 := va_at.keptA (b := h0) (z := 11) 3 at_9 o_42 (Nat.le_of_ble_eq_true rfl)
  replace at_13 := va_at.keptA (b := h0) (z := 11) 4 at_13 o_42 (Nat.le_of_ble_eq_true rfl)
  replace at_17 := va_at.keptA (b := h0) (z := 11) 5 at_17 o_42 (Nat.le_of_ble_eq_true rfl)
  replace at_21 := va_at.keptA (b := h0) (z := 11) 6 at_21 o_42 (Nat.le_of_ble_eq_true rfl)
  replace at_25 := va_at.keptA (b := h0) (z := 11) 7 at_25 o_42 (Nat.le_of_ble_eq_true rfl)
  replace at_29 := va_at.keptA (b := h0) (z := 11) 8 at_29 o_42 (Nat.le_of_ble_eq_true rfl)
  replace at_33 := va_at.keptA (b := h0) (z := 11) 9 at_33 o_42 (Nat.le_of_ble_eq_true rfl)
  replace at_37 := va_at.keptA (b := h0) (z := 11) 10 at_37 o_42 (Nat.le_of_ble_eq_true rfl)
  clear o_42
  have hz : H.size = h0 + 12 := hz
  refine nw_putF (D := D) (ci := 9) (v := .ref (h0 + 11)) (ty := .array .int) (C := RX10) (T := TX10) (N := 36) hx hb hts in10 tyX10 tyX10_ok nmX10 hown hK hS (Nat.le_refl _) at0 rfl 15 (by decide) (hts (.fieldLink RX10 41 "RiverModelModel" "gaugeAt" "[I") (List.mem_of_getElem? (i := 16) rfl)) (fun _ h9 => h9) rfl hin rfl (by decide +kernel) rfl rfl (Nat.le_of_ble_eq_true rfl) dX10_init_93 (fun H locs at0 hz_44 o_43 hS => ?_)
  have at0 : va_at D vwCl (h0, .inr (9, [.int 0, .ref (h0 + 1), .int 0, .int 0, .ref (h0 + 2), .ref (h0 + 3), .ref (h0 + 4), .ref (h0 + 5), .int 0, .ref (h0 + 6), .ref (h0 + 7), .ref (h0 + 8), .ref (h0 + 9), .int 0, .ref (h0 + 10), .ref (h0 + 11), .null, .int 0, .null, .null, .null, .null, .null, .null, .null, .null, .null, .int 0, .int 0, .int 0, .int 0, .int 0, .null, .int 0, .int 0, .null])) H := at0
  replace hz : H.size = h0 + 12 := hz_44.trans hz
  replace at_1 := va_at.keptP (b := h0) (j := 0) 1 at_1 o_43 rfl
  replace at_5 := va_at.keptP (b := h0) (j := 0) 2 at_5 o_43 rfl
  replace at_9 := va_at.keptP (b := h0) (j := 0) 3 at_9 o_43 rfl
  replace at_13 := va_at.keptP (b := h0) (j := 0) 4 at_13 o_43 rfl
  replace at_17 := va_at.keptP (b := h0) (j := 0) 5 at_17 o_43 rfl
  replace at_21 := va_at.keptP (b := h0) (j := 0) 6 at_21 o_43 rfl
  replace at_25 := va_at.keptP (b := h0) (j := 0) 7 at_25 o_43 rfl
  replace at_29 := va_at.keptP (b := h0) (j := 0) 8 at_29 o_43 rfl
  replace at_33 := va_at.keptP (b := h0) (j := 0) 9 at_33 o_43 rfl
  replace at_37 := va_at.keptP (b := h0) (j := 0) 10 at_37 o_43 rfl
  replace at_41 := va_at.keptP (b := h0) (j := 0) 11 at_41 o_43 rfl
  clear o_43 hz_44
  refine lv_aload_n hx hb dX10_init_96 rfl (lv_at hl 0 rfl) ?_
  refine lv_pc (pc2 := 97) rfl ?_
  refine lv_sipush (v := 384) hx hb dX10_init_97 (by decide) ?_
  refine nw_newI (N := 384) (z := h0 + 12) hx hb (hts (.arrayClass .int) (List.mem_of_getElem? (i := 4) rfl)) hK hS hz (Nat.le_add_right _ _) (by decide) (by decide) (by decide) (Nat.le_of_ble_eq_true rfl) (Nat.le_of_ble_eq_true rfl) dX10_init_100 (fun H at_45 hz o_46 hS => ?_)
  replace at0 := va_at.keptA (b := h0) (z := 12) 0 at0 o_46 (Nat.le_of_ble_eq_true rfl)
  replace at_1 := va_at.keptA (b := h0) (z := 12) 1 at_1 o_46 (Nat.le_of_ble_eq_true rfl)
  replace at_5 := va_at.keptA (b := h0) (z := 12) 2 at_5 o_46 (Nat.le_of_ble_eq_true rfl)
  replace at_9 := va_at.keptA (b := h0) (z := 12) 3 at_9 o_46 (Nat.le_of_ble_eq_true rfl)
  replace at_13 := va_at.keptA (b := h0) (z := 12) 4 at_13 o_46 (Nat.le_of_ble_eq_true rfl)
  replace at_17 := va_at.keptA (b := h0) (z := 12) 5 at_17 o_46 (Nat.le_of_ble_eq_true rfl)
  replace at_21 := va_at.keptA (b := h0) (z := 12) 6 at_21 o_46 (Nat.le_of_ble_eq_true rfl)
  replace at_25 := va_at.keptA (b := h0) (z := 12) 7 at_25 o_46 (Nat.le_of_ble_eq_true rfl)
  replace at_29 := va_at.keptA (b := h0) (z := 12) 8 at_29 o_46 (Nat.le_of_ble_eq_true rfl)
  replace at_33 := va_at.keptA (b := h0) (z := 12) 9 at_33 o_46 (Nat.le_of_ble_eq_true rfl)
  replace at_37 := va_at.keptA (b := h0) (z := 12) 10 at_37 o_46 (Nat.le_of_ble_eq_true rfl)
  replace at_41 := va_at.keptA (b := h0) (z := 12) 11 at_41 o_46 (Nat.le_of_ble_eq_true rfl)
  clear o_46
  have hz : H.size = h0 + 13 := hz
  refine nw_putF (D := D) (ci := 9) (v := .ref (h0 + 12)) (ty := .array .int) (C := RX10) (T := TX10) (N := 36) hx hb hts in10 tyX10 tyX10_ok nmX10 hown hK hS (Nat.le_refl _) at0 rfl 16 (by decide) (hts (.fieldLink RX10 44 "RiverModelModel" "seen" "[I") (List.mem_of_getElem? (i := 17) rfl)) (fun _ h9 => h9) rfl hin rfl (by decide +kernel) rfl rfl (Nat.le_of_ble_eq_true rfl) dX10_init_102 (fun H locs at0 hz_48 o_47 hS => ?_)
  have at0 : va_at D vwCl (h0, .inr (9, [.int 0, .ref (h0 + 1), .int 0, .int 0, .ref (h0 + 2), .ref (h0 + 3), .ref (h0 + 4), .ref (h0 + 5), .int 0, .ref (h0 + 6), .ref (h0 + 7), .ref (h0 + 8), .ref (h0 + 9), .int 0, .ref (h0 + 10), .ref (h0 + 11), .ref (h0 + 12), .int 0, .null, .null, .null, .null, .null, .null, .null, .null, .null, .int 0, .int 0, .int 0, .int 0, .int 0, .null, .int 0, .int 0, .null])) H := at0
  replace hz : H.size = h0 + 13 := hz_48.trans hz
  replace at_1 := va_at.keptP (b := h0) (j := 0) 1 at_1 o_47 rfl
  replace at_5 := va_at.keptP (b := h0) (j := 0) 2 at_5 o_47 rfl
  replace at_9 := va_at.keptP (b := h0) (j := 0) 3 at_9 o_47 rfl
  replace at_13 := va_at.keptP (b := h0) (j := 0) 4 at_13 o_47 rfl
  replace at_17 := va_at.keptP (b := h0) (j := 0) 5 at_17 o_47 rfl
  replace at_21 := va_at.keptP (b := h0) (j := 0) 6 at_21 o_47 rfl
  replace at_25 := va_at.keptP (b := h0) (j := 0) 7 at_25 o_47 rfl
  replace at_29 := va_at.keptP (b := h0) (j := 0) 8 at_29 o_47 rfl
  replace at_33 := va_at.keptP (b := h0) (j := 0) 9 at_33 o_47 rfl
  replace at_37 := va_at.keptP (b := h0) (j := 0) 10 at_37 o_47 rfl
  replace at_41 := va_at.keptP (b := h0) (j := 0) 11 at_41 o_47 rfl
  replace at_45 := va_at.keptP (b := h0) (j := 0) 12 at_45 o_47 rfl
  clear o_47 hz_48
  refine lv_aload_n hx hb dX10_init_105 rfl (lv_at hl 0 rfl) ?_
  refine lv_iconst (v := 2) hx hb dX10_init_106 (by decide) ?_
  refine nw_newI (N := 2) (z := h0 + 13) hx hb (hts (.arrayClass .int) (List.mem_of_getElem? (i := 4) rfl)) hK hS hz (Nat.le_add_right _ _) (by decide) (by decide) (by decide) (Nat.le_of_ble_eq_true rfl) (Nat.le_of_ble_eq_true rfl) dX10_init_107 (fun H at_49 hz o_50 hS => ?_)
  replace at0 := va_at.keptA (b := h0) (z := 13) 0 at0 o_50 (Nat.le_of_ble_eq_true rfl)
  replace at_1 := va_at.keptA (b := h0) (z := 13) 1 at_1 o_50 (Nat.le_of_ble_eq_true rfl)
  replace at_5 := va_at.keptA (b := h0) (z := 13) 2 at_5 o_50 (Nat.le_of_ble_eq_true rfl)
  replace at_9 := va_at.keptA (b := h0) (z := 13) 3 at_9 o_50 (Nat.le_of_ble_eq_true rfl)
  replace at_13 := va_at.keptA (b := h0) (z := 13) 4 at_13 o_50 (Nat.le_of_ble_eq_true rfl)
  replace at_17 := va_at.keptA (b := h0) (z := 13) 5 at_17 o_50 (Nat.le_of_ble_eq_true rfl)
  replace at_21 := va_at.keptA (b := h0) (z := 13) 6 at_21 o_50 (Nat.le_of_ble_eq_true rfl)
  replace at_25 := va_at.keptA (b := h0) (z := 13) 7 at_25 o_50 (Nat.le_of_ble_eq_true rfl)
  replace at_29 := va_at.keptA (b := h0) (z := 13) 8 at_29 o_50 (Nat.le_of_ble_eq_true rfl)
  replace at_33 := va_at.keptA (b := h0) (z := 13) 9 at_33 o_50 (Nat.le_of_ble_eq_true rfl)
  replace at_37 := va_at.keptA (b := h0) (z := 13) 10 at_37 o_50 (Nat.le_of_ble_eq_true rfl)
  replace at_41 := va_at.keptA (b := h0) (z := 13) 11 at_41 o_50 (Nat.le_of_ble_eq_true rfl)
  replace at_45 := va_at.keptA (b := h0) (z := 13) 12 at_45 o_50 (Nat.le_of_ble_eq_true rfl)
  clear o_50
  have hz : H.size = h0 + 14 := hz
  refine nw_putF (D := D) (ci := 9) (v := .ref (h0 + 13)) (ty := .array .int) (C := RX10) (T := TX10) (N := 36) hx hb hts in10 tyX10 tyX10_ok nmX10 hown hK hS (Nat.le_refl _) at0 rfl 18 (by decide) (hts (.fieldLink RX10 47 "RiverModelModel" "knobItem" "[I") (List.mem_of_getElem? (i := 18) rfl)) (fun _ h9 => h9) rfl hin rfl (by decide +kernel) rfl rfl (Nat.le_of_ble_eq_true rfl) dX10_init_109 (fun H locs at0 hz_52 o_51 hS => ?_)
  have at0 : va_at D vwCl (h0, .inr (9, [.int 0, .ref (h0 + 1), .int 0, .int 0, .ref (h0 + 2), .ref (h0 + 3), .ref (h0 + 4), .ref (h0 + 5), .int 0, .ref (h0 + 6), .ref (h0 + 7), .ref (h0 + 8), .ref (h0 + 9), .int 0, .ref (h0 + 10), .ref (h0 + 11), .ref (h0 + 12), .int 0, .ref (h0 + 13), .null, .null, .null, .null, .null, .null, .null, .null, .int 0, .int 0, .int 0, .int 0, .int 0, .null, .int 0, .int 0, .null])) H := at0
  replace hz : H.size = h0 + 14 := hz_52.trans hz
  replace at_1 := va_at.keptP (b := h0) (j := 0) 1 at_1 o_51 rfl
  replace at_5 := va_at.keptP (b := h0) (j := 0) 2 at_5 o_51 rfl
  replace at_9 := va_at.keptP (b := h0) (j := 0) 3 at_9 o_51 rfl
  replace at_13 := va_at.keptP (b := h0) (j := 0) 4 at_13 o_51 rfl
  replace at_17 := va_at.keptP (b := h0) (j := 0) 5 at_17 o_51 rfl
  replace at_21 := va_at.keptP (b := h0) (j := 0) 6 at_21 o_51 rfl
  replace at_25 := va_at.keptP (b := h0) (j := 0) 7 at_25 o_51 rfl
  replace at_29 := va_at.keptP (b := h0) (j := 0) 8 at_29 o_51 rfl
  replace at_33 := va_at.keptP (b := h0) (j := 0) 9 at_33 o_51 rfl
  replace at_37 := va_at.keptP (b := h0) (j := 0) 10 at_37 o_51 rfl
  replace at_41 := va_at.keptP (b := h0) (j := 0) 11 at_41 o_51 rfl
  replace at_45 := va_at.keptP (b := h0) (j := 0) 12 at_45 o_51 rfl
  replace at_49 := va_at.keptP (b := h0) (j := 0) 13 at_49 o_51 rfl
  clear o_51 hz_52
  refine lv_aload_n hx hb dX10_init_112 rfl (lv_at hl 0 rfl) ?_
  refine lv_pc (pc2 := 113) rfl ?_
  refine lv_iconst (v := 2) hx hb dX10_init_113 (by decide) ?_
  refine nw_newI (N := 2) (z := h0 + 14) hx hb (hts (.arrayClass .int) (List.mem_of_getElem? (i := 4) rfl)) hK hS hz (Nat.le_add_right _ _) (by decide) (by decide) (by decide) (Nat.le_of_ble_eq_true rfl) (Nat.le_of_ble_eq_true rfl) dX10_init_114 (fun H at_53 hz o_54 hS => ?_)
  replace at0 := va_at.keptA (b := h0) (z := 14) 0 at0 o_54 (Nat.le_of_ble_eq_true rfl)
  replace at_1 := va_at.keptA (b := h0) (z := 14) 1 at_1 o_54 (Nat.le_of_ble_eq_true rfl)
  replace at_5 := va_at.keptA (b := h0) (z := 14) 2 at_5 o_54 (Nat.le_of_ble_eq_true rfl)
  replace at_9 := va_at.keptA (b := h0) (z := 14) 3 at_9 o_54 (Nat.le_of_ble_eq_true rfl)
  replace at_13 := va_at.keptA (b := h0) (z := 14) 4 at_13 o_54 (Nat.le_of_ble_eq_true rfl)
  replace at_17 := va_at.keptA (b := h0) (z := 14) 5 at_17 o_54 (Nat.le_of_ble_eq_true rfl)
  replace at_21 := va_at.keptA (b := h0) (z := 14) 6 at_21 o_54 (Nat.le_of_ble_eq_true rfl)
  replace at_25 := va_at.keptA (b := h0) (z := 14) 7 at_25 o_54 (Nat.le_of_ble_eq_true rfl)
  replace at_29 := va_at.keptA (b := h0) (z := 14) 8 at_29 o_54 (Nat.le_of_ble_eq_true rfl)
  replace at_33 := va_at.keptA (b := h0) (z := 14) 9 at_33 o_54 (Nat.le_of_ble_eq_true rfl)
  replace at_37 := va_at.keptA (b := h0) (z := 14) 10 at_37 o_54 (Nat.le_of_ble_eq_true rfl)
  replace at_41 := va_at.keptA (b := h0) (z := 14) 11 at_41 o_54 (Nat.le_of_ble_eq_true rfl)
  replace at_45 := va_at.keptA (b := h0) (z := 14) 12 at_45 o_54 (Nat.le_of_ble_eq_true rfl)
  replace at_49 := va_at.keptA (b := h0) (z := 14) 13 at_49 o_54 (Nat.le_of_ble_eq_true rfl)
  clear o_54
  have hz : H.size = h0 + 15 := hz
  refine nw_putF (D := D) (ci := 9) (v := .ref (h0 + 14)) (ty := .array .int) (C := RX10) (T := TX10) (N := 36) hx hb hts in10 tyX10 tyX10_ok nmX10 hown hK hS (Nat.le_refl _) at0 rfl 19 (by decide) (hts (.fieldLink RX10 50 "RiverModelModel" "knobAt" "[I") (List.mem_of_getElem? (i := 19) rfl)) (fun _ h9 => h9) rfl hin rfl (by decide +kernel) rfl rfl (Nat.le_of_ble_eq_true rfl) dX10_init_116 (fun H locs at0 hz_56 o_55 hS => ?_)
  have at0 : va_at D vwCl (h0, .inr (9, [.int 0, .ref (h0 + 1), .int 0, .int 0, .ref (h0 + 2), .ref (h0 + 3), .ref (h0 + 4), .ref (h0 + 5), .int 0, .ref (h0 + 6), .ref (h0 + 7), .ref (h0 + 8), .ref (h0 + 9), .int 0, .ref (h0 + 10), .ref (h0 + 11), .ref (h0 + 12), .int 0, .ref (h0 + 13), .ref (h0 + 14), .null, .null, .null, .null, .null, .null, .null, .int 0, .int 0, .int 0, .int 0, .int 0, .null, .int 0, .int 0, .null])) H := at0
  replace hz : H.size = h0 + 15 := hz_56.trans hz
  replace at_1 := va_at.keptP (b := h0) (j := 0) 1 at_1 o_55 rfl
  replace at_5 := va_at.keptP (b := h0) (j := 0) 2 at_5 o_55 rfl
  replace at_9 := va_at.keptP (b := h0) (j := 0) 3 at_9 o_55 rfl
  replace at_13 := va_at.keptP (b := h0) (j := 0) 4 at_13 o_55 rfl
  replace at_17 := va_at.keptP (b := h0) (j := 0) 5 at_17 o_55 rfl
  replace at_21 := va_at.keptP (b := h0) (j := 0) 6 at_21 o_55 rfl
  replace at_25 := va_at.keptP (b := h0) (j := 0) 7 at_25 o_55 rfl
  replace at_29 := va_at.keptP (b := h0) (j := 0) 8 at_29 o_55 rfl
  replace at_33 := va_at.keptP (b := h0) (j := 0) 9 at_33 o_55 rfl
  replace at_37 := va_at.keptP (b := h0) (j := 0) 10 at_37 o_55 rfl
  replace at_41 := va_at.keptP (b := h0) (j := 0) 11 at_41 o_55 rfl
  replace at_45 := va_at.keptP (b := h0) (j := 0) 12 at_45 o_55 rfl
  replace at_49 := va_at.keptP (b := h0) (j := 0) 13 at_49 o_55 rfl
  replace at_53 := va_at.keptP (b := h0) (j := 0) 14 at_53 o_55 rfl
  clear o_55 hz_56
  refine lv_aload_n hx hb dX10_init_119 rfl (lv_at hl 0 rfl) ?_
  refine lv_iconst (v := 2) hx hb dX10_init_120 (by decide) ?_
  refine nw_newI (N := 2) (z := h0 + 15) hx hb (hts (.arrayClass .int) (List.mem_of_getElem? (i := 4) rfl)) hK hS hz (Nat.le_add_right _ _) (by decide) (by decide) (by decide) (Nat.le_of_ble_eq_true rfl) (Nat.le_of_ble_eq_true rfl) dX10_init_121 (fun H at_57 hz o_58 hS => ?_)
  replace at0 := va_at.keptA (b := h0) (z := 15) 0 at0 o_58 (Nat.le_of_ble_eq_true rfl)
  replace at_1 := va_at.keptA (b := h0) (z := 15) 1 at_1 o_58 (Nat.le_of_ble_eq_true rfl)
  replace at_5 := va_at.keptA (b := h0) (z := 15) 2 at_5 o_58 (Nat.le_of_ble_eq_true rfl)
  replace at_9 := va_at.keptA (b := h0) (z := 15) 3 at_9 o_58 (Nat.le_of_ble_eq_true rfl)
  replace at_13 := va_at.keptA (b := h0) (z := 15) 4 at_13 o_58 (Nat.le_of_ble_eq_true rfl)
  replace at_17 := va_at.keptA (b := h0) (z := 15) 5 at_17 o_58 (Nat.le_of_ble_eq_true rfl)
  replace at_21 := va_at.keptA (b := h0) (z := 15) 6 at_21 o_58 (Nat.le_of_ble_eq_true rfl)
  replace at_25 := va_at.keptA (b := h0) (z := 15) 7 at_25 o_58 (Nat.le_of_ble_eq_true rfl)
  replace at_29 := va_at.keptA (b := h0) (z := 15) 8 at_29 o_58 (Nat.le_of_ble_eq_true rfl)
  replace at_33 := va_at.keptA (b := h0) (z := 15) 9 at_33 o_58 (Nat.le_of_ble_eq_true rfl)
  replace at_37 := va_at.keptA (b := h0) (z := 15) 10 at_37 o_58 (Nat.le_of_ble_eq_true rfl)
  replace at_41 := va_at.keptA (b := h0) (z := 15) 11 at_41 o_58 (Nat.le_of_ble_eq_true rfl)
  replace at_45 := va_at.keptA (b := h0) (z := 15) 12 at_45 o_58 (Nat.le_of_ble_eq_true rfl)
  replace at_49 := va_at.keptA (b := h0) (z := 15) 13 at_49 o_58 (Nat.le_of_ble_eq_true rfl)
  replace at_53 := va_at.keptA (b := h0) (z := 15) 14 at_53 o_58 (Nat.le_of_ble_eq_true rfl)
  clear o_58
  have hz : H.size = h0 + 16 := hz
  refine nw_putF (D := D) (ci := 9) (v := .ref (h0 + 15)) (ty := .array .int) (C := RX10) (T := TX10) (N := 36) hx hb hts in10 tyX10 tyX10_ok nmX10 hown hK hS (Nat.le_refl _) at0 rfl 20 (by decide) (hts (.fieldLink RX10 53 "RiverModelModel" "knobFrom" "[I") (List.mem_of_getElem? (i := 20) rfl)) (fun _ h9 => h9) rfl hin rfl (by decide +kernel) rfl rfl (Nat.le_of_ble_eq_true rfl) dX10_init_123 (fun H locs at0 hz_60 o_59 hS => ?_)
  have at0 : va_at D vwCl (h0, .inr (9, [.int 0, .ref (h0 + 1), .int 0, .int 0, .ref (h0 + 2), .ref (h0 + 3), .ref (h0 + 4), .ref (h0 + 5), .int 0, .ref (h0 + 6), .ref (h0 + 7), .ref (h0 + 8), .ref (h0 + 9), .int 0, .ref (h0 + 10), .ref (h0 + 11), .ref (h0 + 12), .int 0, .ref (h0 + 13), .ref (h0 + 14), .ref (h0 + 15), .null, .null, .null, .null, .null, .null, .int 0, .int 0, .int 0, .int 0, .int 0, .null, .int 0, .int 0, .null])) H := at0
  replace hz : H.size = h0 + 16 := hz_60.trans hz
  replace at_1 := va_at.keptP (b := h0) (j := 0) 1 at_1 o_59 rfl
  replace at_5 := va_at.keptP (b := h0) (j := 0) 2 at_5 o_59 rfl
  replace at_9 := va_at.keptP (b := h0) (j := 0) 3 at_9 o_59 rfl
  replace at_13 := va_at.keptP (b := h0) (j := 0) 4 at_13 o_59 rfl
  replace at_17 := va_at.keptP (b := h0) (j := 0) 5 at_17 o_59 rfl
  replace at_21 := va_at.keptP (b := h0) (j := 0) 6 at_21 o_59 rfl
  replace at_25 := va_at.keptP (b := h0) (j := 0) 7 at_25 o_59 rfl
  replace at_29 := va_at.keptP (b := h0) (j := 0) 8 at_29 o_59 rfl
  replace at_33 := va_at.keptP (b := h0) (j := 0) 9 at_33 o_59 rfl
  replace at_37 := va_at.keptP (b := h0) (j := 0) 10 at_37 o_59 rfl
  replace at_41 := va_at.keptP (b := h0) (j := 0) 11 at_41 o_59 rfl
  replace at_45 := va_at.keptP (b := h0) (j := 0) 12 at_45 o_59 rfl
  replace at_49 := va_at.keptP (b := h0) (j := 0) 13 at_49 o_59 rfl
  replace at_53 := va_at.keptP (b := h0) (j := 0) 14 at_53 o_59 rfl
  replace at_57 := va_at.keptP (b := h0) (j := 0) 15 at_57 o_59 rfl
  clear o_59 hz_60
  refine lv_aload_n hx hb dX10_init_126 rfl (lv_at hl 0 rfl) ?_
  refine lv_pc (pc2 := 127) rfl ?_
  refine lv_iconst (v := 2) hx hb dX10_init_127 (by decide) ?_
  refine nw_newI (N := 2) (z := h0 + 16) hx hb (hts (.arrayClass .int) (List.mem_of_getElem? (i := 4) rfl)) hK hS hz (Nat.le_add_right _ _) (by decide) (by decide) (by decide) (Nat.le_of_ble_eq_true rfl) (Nat.le_of_ble_eq_true rfl) dX10_init_128 (fun H at_61 hz o_62 hS => ?_)
  replace at0 := va_at.keptA (b := h0) (z := 16) 0 at0 o_62 (Nat.le_of_ble_eq_true rfl)
  replace at_1 := va_at.keptA (b := h0) (z := 16) 1 at_1 o_62 (Nat.le_of_ble_eq_true rfl)
  replace at_5 := va_at.keptA (b := h0) (z := 16) 2 at_5 o_62 (Nat.le_of_ble_eq_true rfl)
  replace at_9 := va_at.keptA (b := h0) (z := 16) 3 at_9 o_62 (Nat.le_of_ble_eq_true rfl)
  replace at_13 := va_at.keptA (b := h0) (z := 16) 4 at_13 o_62 (Nat.le_of_ble_eq_true rfl)
  replace at_17 := va_at.keptA (b := h0) (z := 16) 5 at_17 o_62 (Nat.le_of_ble_eq_true rfl)
  replace at_21 := va_at.keptA (b := h0) (z := 16) 6 at_21 o_62 (Nat.le_of_ble_eq_true rfl)
  replace at_25 := va_at.keptA (b := h0) (z := 16) 7 at_25 o_62 (Nat.le_of_ble_eq_true rfl)
  replace at_29 := va_at.keptA (b := h0) (z := 16) 8 at_29 o_62 (Nat.le_of_ble_eq_true rfl)
  replace at_33 := va_at.keptA (b := h0) (z := 16) 9 at_33 o_62 (Nat.le_of_ble_eq_true rfl)
  replace at_37 := va_at.keptA (b := h0) (z := 16) 10 at_37 o_62 (Nat.le_of_ble_eq_true rfl)
  replace at_41 := va_at.keptA (b := h0) (z := 16) 11 at_41 o_62 (Nat.le_of_ble_eq_true rfl)
  replace at_45 := va_at.keptA (b := h0) (z := 16) 12 at_45 o_62 (Nat.le_of_ble_eq_true rfl)
  replace at_49 := va_at.keptA (b := h0) (z := 16) 13 at_49 o_62 (Nat.le_of_ble_eq_true rfl)
  replace at_53 := va_at.keptA (b := h0) (z := 16) 14 at_53 o_62 (Nat.le_of_ble_eq_true rfl)
  replace at_57 := va_at.keptA (b := h0) (z := 16) 15 at_57 o_62 (Nat.le_of_ble_eq_true rfl)
  clear o_62
  have hz : H.size = h0 + 17 := hz
  refine nw_putF (D := D) (ci := 9) (v := .ref (h0 + 16)) (ty := .array .int) (C := RX10) (T := TX10) (N := 36) hx hb hts in10 tyX10 tyX10_ok nmX10 hown hK hS (Nat.le_refl _) at0 rfl 21 (by decide) (hts (.fieldLink RX10 56 "RiverModelModel" "knobStep" "[I") (List.mem_of_getElem? (i := 21) rfl)) (fun _ h9 => h9) rfl hin rfl (by decide +kernel) rfl rfl (Nat.le_of_ble_eq_true rfl) dX10_init_130 (fun H locs at0 hz_64 o_63 hS => ?_)
  have at0 : va_at D vwCl (h0, .inr (9, [.int 0, .ref (h0 + 1), .int 0, .int 0, .ref (h0 + 2), .ref (h0 + 3), .ref (h0 + 4), .ref (h0 + 5), .int 0, .ref (h0 + 6), .ref (h0 + 7), .ref (h0 + 8), .ref (h0 + 9), .int 0, .ref (h0 + 10), .ref (h0 + 11), .ref (h0 + 12), .int 0, .ref (h0 + 13), .ref (h0 + 14), .ref (h0 + 15), .ref (h0 + 16), .null, .null, .null, .null, .null, .int 0, .int 0, .int 0, .int 0, .int 0, .null, .int 0, .int 0, .null])) H := at0
  replace hz : H.size = h0 + 17 := hz_64.trans hz
  replace at_1 := va_at.keptP (b := h0) (j := 0) 1 at_1 o_63 rfl
  replace at_5 := va_at.keptP (b := h0) (j := 0) 2 at_5 o_63 rfl
  replace at_9 := va_at.keptP (b := h0) (j := 0) 3 at_9 o_63 rfl
  replace at_13 := va_at.keptP (b := h0) (j := 0) 4 at_13 o_63 rfl
  replace at_17 := va_at.keptP (b := h0) (j := 0) 5 at_17 o_63 rfl
  replace at_21 := va_at.keptP (b := h0) (j := 0) 6 at_21 o_63 rfl
  replace at_25 := va_at.keptP (b := h0) (j := 0) 7 at_25 o_63 rfl
  replace at_29 := va_at.keptP (b := h0) (j := 0) 8 at_29 o_63 rfl
  replace at_33 := va_at.keptP (b := h0) (j := 0) 9 at_33 o_63 rfl
  replace at_37 := va_at.keptP (b := h0) (j := 0) 10 at_37 o_63 rfl
  replace at_41 := va_at.keptP (b := h0) (j := 0) 11 at_41 o_63 rfl
  replace at_45 := va_at.keptP (b := h0) (j := 0) 12 at_45 o_63 rfl
  replace at_49 := va_at.keptP (b := h0) (j := 0) 13 at_49 o_63 rfl
  replace at_53 := va_at.keptP (b := h0) (j := 0) 14 at_53 o_63 rfl
  replace at_57 := va_at.keptP (b := h0) (j := 0) 15 at_57 o_63 rfl
  replace at_61 := va_at.keptP (b := h0) (j := 0) 16 at_61 o_63 rfl
  clear o_63 hz_64
  refine lv_aload_n hx hb dX10_init_133 rfl (lv_at hl 0 rfl) ?_
  refine lv_iconst (v := 2) hx hb dX10_init_134 (by decide) ?_
  refine nw_newI (N := 2) (z := h0 + 17) hx hb (hts (.arrayClass .int) (List.mem_of_getElem? (i := 4) rfl)) hK hS hz (Nat.le_add_right _ _) (by decide) (by decide) (by decide) (Nat.le_of_ble_eq_true rfl) (Nat.le_of_ble_eq_true rfl) dX10_init_135 (fun H at_65 hz o_66 hS => ?_)
  replace at0 := va_at.keptA (b := h0) (z := 17) 0 at0 o_66 (Nat.le_of_ble_eq_true rfl)
  replace at_1 := va_at.keptA (b := h0) (z := 17) 1 at_1 o_66 (Nat.le_of_ble_eq_true rfl)
  replace at_5 := va_at.keptA (b := h0) (z := 17) 2 at_5 o_66 (Nat.le_of_ble_eq_true rfl)
  replace at_9 := va_at.keptA (b := h0) (z := 17) 3 at_9 o_66 (Nat.le_of_ble_eq_true rfl)
  replace at_13 := va_at.keptA (b := h0) (z := 17) 4 at_13 o_66 (Nat.le_of_ble_eq_true rfl)
  replace at_17 := va_at.keptA (b := h0) (z := 17) 5 at_17 o_66 (Nat.le_of_ble_eq_true rfl)
  replace at_21 := va_at.keptA (b := h0) (z := 17) 6 at_21 o_66 (Nat.le_of_ble_eq_true rfl)
  replace at_25 := va_at.keptA (b := h0) (z := 17) 7 at_25 o_66 (Nat.le_of_ble_eq_true rfl)
  replace at_29 := va_at.keptA (b := h0) (z := 17) 8 at_29 o_66 (Nat.le_of_ble_eq_true rfl)
  replace at_33 := va_at.keptA (b := h0) (z := 17) 9 at_33 o_66 (Nat.le_of_ble_eq_true rfl)
  replace at_37 := va_at.keptA (b := h0) (z := 17) 10 at_37 o_66 (Nat.le_of_ble_eq_true rfl)
  replace at_41 := va_at.keptA (b := h0) (z := 17) 11 at_41 o_66 (Nat.le_of_ble_eq_true rfl)
  replace at_45 := va_at.keptA (b := h0) (z := 17) 12 at_45 o_66 (Nat.le_of_ble_eq_true rfl)
  replace at_49 := va_at.keptA (b := h0) (z := 17) 13 at_49 o_66 (Nat.le_of_ble_eq_true rfl)
  replace at_53 := va_at.keptA (b := h0) (z := 17) 14 at_53 o_66 (Nat.le_of_ble_eq_true rfl)
  replace at_57 := va_at.keptA (b := h0) (z := 17) 15 at_57 o_66 (Nat.le_of_ble_eq_true rfl)
  replace at_61 := va_at.keptA (b := h0) (z := 17) 16 at_61 o_66 (Nat.le_of_ble_eq_true rfl)
  clear o_66
  have hz : H.size = h0 + 18 := hz
  refine nw_putF (D := D) (ci := 9) (v := .ref (h0 + 17)) (ty := .array .int) (C := RX10) (T := TX10) (N := 36) hx hb hts in10 tyX10 tyX10_ok nmX10 hown hK hS (Nat.le_refl _) at0 rfl 22 (by decide) (hts (.fieldLink RX10 59 "RiverModelModel" "knobMany" "[I") (List.mem_of_getElem? (i := 22) rfl)) (fun _ h9 => h9) rfl hin rfl (by decide +kernel) rfl rfl (Nat.le_of_ble_eq_true rfl) dX10_init_137 (fun H locs at0 hz_68 o_67 hS => ?_)
  have at0 : va_at D vwCl (h0, .inr (9, [.int 0, .ref (h0 + 1), .int 0, .int 0, .ref (h0 + 2), .ref (h0 + 3), .ref (h0 + 4), .ref (h0 + 5), .int 0, .ref (h0 + 6), .ref (h0 + 7), .ref (h0 + 8), .ref (h0 + 9), .int 0, .ref (h0 + 10), .ref (h0 + 11), .ref (h0 + 12), .int 0, .ref (h0 + 13), .ref (h0 + 14), .ref (h0 + 15), .ref (h0 + 16), .ref (h0 + 17), .null, .null, .null, .null, .int 0, .int 0, .int 0, .int 0, .int 0, .null, .int 0, .int 0, .null])) H := at0
  replace hz : H.size = h0 + 18 := hz_68.trans hz
  replace at_1 := va_at.keptP (b := h0) (j := 0) 1 at_1 o_67 rfl
  replace at_5 := va_at.keptP (b := h0) (j := 0) 2 at_5 o_67 rfl
  replace at_9 := va_at.keptP (b := h0) (j := 0) 3 at_9 o_67 rfl
  replace at_13 := va_at.keptP (b := h0) (j := 0) 4 at_13 o_67 rfl
  replace at_17 := va_at.keptP (b := h0) (j := 0) 5 at_17 o_67 rfl
  replace at_21 := va_at.keptP (b := h0) (j := 0) 6 at_21 o_67 rfl
  replace at_25 := va_at.keptP (b := h0) (j := 0) 7 at_25 o_67 rfl
  replace at_29 := va_at.keptP (b := h0) (j := 0) 8 at_29 o_67 rfl
  replace at_33 := va_at.keptP (b := h0) (j := 0) 9 at_33 o_67 rfl
  replace at_37 := va_at.keptP (b := h0) (j := 0) 10 at_37 o_67 rfl
  replace at_41 := va_at.keptP (b := h0) (j := 0) 11 at_41 o_67 rfl
  replace at_45 := va_at.keptP (b := h0) (j := 0) 12 at_45 o_67 rfl
  replace at_49 := va_at.keptP (b := h0) (j := 0) 13 at_49 o_67 rfl
  replace at_53 := va_at.keptP (b := h0) (j := 0) 14 at_53 o_67 rfl
  replace at_57 := va_at.keptP (b := h0) (j := 0) 15 at_57 o_67 rfl
  replace at_61 := va_at.keptP (b := h0) (j := 0) 16 at_61 o_67 rfl
  replace at_65 := va_at.keptP (b := h0) (j := 0) 17 at_65 o_67 rfl
  clear o_67 hz_68
  refine lv_aload_n hx hb dX10_init_140 rfl (lv_at hl 0 rfl) ?_
  refine lv_pc (pc2 := 141) rfl ?_
  refine lv_iconst (v := 4) hx hb dX10_init_141 (by decide) ?_
  refine nw_newI (N := 4) (z := h0 + 18) hx hb (hts (.arrayClass .int) (List.mem_of_getElem? (i := 4) rfl)) hK hS hz (Nat.le_add_right _ _) (by decide) (by decide) (by decide) (Nat.le_of_ble_eq_true rfl) (Nat.le_of_ble_eq_true rfl) dX10_init_142 (fun H at_69 hz o_70 hS => ?_)
  replace at0 := va_at.keptA (b := h0) (z := 18) 0 at0 o_70 (Nat.le_of_ble_eq_true rfl)
  replace at_1 := va_at.keptA (b := h0) (z := 18) 1 at_1 o_70 (Nat.le_of_ble_eq_true rfl)
  replace at_5 := va_at.keptA (b := h0) (z := 18) 2 at_5 o_70 (Nat.le_of_ble_eq_true rfl)
  replace at_9 := va_at.keptA (b := h0) (z := 18) 3 at_9 o_70 (Nat.le_of_ble_eq_true rfl)
  replace at_13 := va_at.keptA (b := h0) (z := 18) 4 at_13 o_70 (Nat.le_of_ble_eq_true rfl)
  replace at_17 := va_at.keptA (b := h0) (z := 18) 5 at_17 o_70 (Nat.le_of_ble_eq_true rfl)
  replace at_21 := va_at.keptA (b := h0) (z := 18) 6 at_21 o_70 (Nat.le_of_ble_eq_true rfl)
  replace at_25 := va_at.keptA (b := h0) (z := 18) 7 at_25 o_70 (Nat.le_of_ble_eq_true rfl)
  replace at_29 := va_at.keptA (b := h0) (z := 18) 8 at_29 o_70 (Nat.le_of_ble_eq_true rfl)
  replace at_33 := va_at.keptA (b := h0) (z := 18) 9 at_33 o_70 (Nat.le_of_ble_eq_true rfl)
  replace at_37 := va_at.keptA (b := h0) (z := 18) 10 at_37 o_70 (Nat.le_of_ble_eq_true rfl)
  replace at_41 := va_at.keptA (b := h0) (z := 18) 11 at_41 o_70 (Nat.le_of_ble_eq_true rfl)
  replace at_45 := va_at.keptA (b := h0) (z := 18) 12 at_45 o_70 (Nat.le_of_ble_eq_true rfl)
  replace at_49 := va_at.keptA (b := h0) (z := 18) 13 at_49 o_70 (Nat.le_of_ble_eq_true rfl)
  replace at_53 := va_at.keptA (b := h0) (z := 18) 14 at_53 o_70 (Nat.le_of_ble_eq_true rfl)
  replace at_57 := va_at.keptA (b := h0) (z := 18) 15 at_57 o_70 (Nat.le_of_ble_eq_true rfl)
  replace at_61 := va_at.keptA (b := h0) (z := 18) 16 at_61 o_70 (Nat.le_of_ble_eq_true rfl)
  replace at_65 := va_at.keptA (b := h0) (z := 18) 17 at_65 o_70 (Nat.le_of_ble_eq_true rfl)
  clear o_70
  have hz : H.size = h0 + 19 := hz
  refine nw_putF (D := D) (ci := 9) (v := .ref (h0 + 18)) (ty := .array .int) (C := RX10) (T := TX10) (N := 36) hx hb hts in10 tyX10 tyX10_ok nmX10 hown hK hS (Nat.le_refl _) at0 rfl 23 (by decide) (hts (.fieldLink RX10 62 "RiverModelModel" "weight" "[I") (List.mem_of_getElem? (i := 23) rfl)) (fun _ h9 => h9) rfl hin rfl (by decide +kernel) rfl rfl (Nat.le_of_ble_eq_true rfl) dX10_init_144 (fun H locs at0 hz_72 o_71 hS => ?_)
  have at0 : va_at D vwCl (h0, .inr (9, [.int 0, .ref (h0 + 1), .int 0, .int 0, .ref (h0 + 2), .ref (h0 + 3), .ref (h0 + 4), .ref (h0 + 5), .int 0, .ref (h0 + 6), .ref (h0 + 7), .ref (h0 + 8), .ref (h0 + 9), .int 0, .ref (h0 + 10), .ref (h0 + 11), .ref (h0 + 12), .int 0, .ref (h0 + 13), .ref (h0 + 14), .ref (h0 + 15), .ref (h0 + 16), .ref (h0 + 17), .ref (h0 + 18), .null, .null, .null, .int 0, .int 0, .int 0, .int 0, .int 0, .null, .int 0, .int 0, .null])) H := at0
  replace hz : H.size = h0 + 19 := hz_72.trans hz
  replace at_1 := va_at.keptP (b := h0) (j := 0) 1 at_1 o_71 rfl
  replace at_5 := va_at.keptP (b := h0) (j := 0) 2 at_5 o_71 rfl
  replace at_9 := va_at.keptP (b := h0) (j := 0) 3 at_9 o_71 rfl
  replace at_13 := va_at.keptP (b := h0) (j := 0) 4 at_13 o_71 rfl
  replace at_17 := va_at.keptP (b := h0) (j := 0) 5 at_17 o_71 rfl
  replace at_21 := va_at.keptP (b := h0) (j := 0) 6 at_21 o_71 rfl
  replace at_25 := va_at.keptP (b := h0) (j := 0) 7 at_25 o_71 rfl
  replace at_29 := va_at.keptP (b := h0) (j := 0) 8 at_29 o_71 rfl
  replace at_33 := va_at.keptP (b := h0) (j := 0) 9 at_33 o_71 rfl
  replace at_37 := va_at.keptP (b := h0) (j := 0) 10 at_37 o_71 rfl
  replace at_41 := va_at.keptP (b := h0) (j := 0) 11 at_41 o_71 rfl
  replace at_45 := va_at.keptP (b := h0) (j := 0) 12 at_45 o_71 rfl
  replace at_49 := va_at.keptP (b := h0) (j := 0) 13 at_49 o_71 rfl
  replace at_53 := va_at.keptP (b := h0) (j := 0) 14 at_53 o_71 rfl
  replace at_57 := va_at.keptP (b := h0) (j := 0) 15 at_57 o_71 rfl
  replace at_61 := va_at.keptP (b := h0) (j := 0) 16 at_61 o_71 rfl
  replace at_65 := va_at.keptP (b := h0) (j := 0) 17 at_65 o_71 rfl
  replace at_69 := va_at.keptP (b := h0) (j := 0) 18 at_69 o_71 rfl
  clear o_71 hz_72
  refine lv_aload_n hx hb dX10_init_147 rfl (lv_at hl 0 rfl) ?_
  refine lv_bipush (v := 96) hx hb dX10_init_148 (by decide) ?_
  refine nw_newI (N := 96) (z := h0 + 19) hx hb (hts (.arrayClass .int) (List.mem_of_getElem? (i := 4) rfl)) hK hS hz (Nat.le_add_right _ _) (by decide) (by decide) (by decide) (Nat.le_of_ble_eq_true rfl) (Nat.le_of_ble_eq_true rfl) dX10_init_150 (fun H at_73 hz o_74 hS => ?_)
  replace at0 := va_at.keptA (b := h0) (z := 19) 0 at0 o_74 (Nat.le_of_ble_eq_true rfl)
  replace at_1 := va_at.keptA (b := h0) (z := 19) 1 at_1 o_74 (Nat.le_of_ble_eq_true rfl)
  replace at_5 := va_at.keptA (b := h0) (z := 19) 2 at_5 o_74 (Nat.le_of_ble_eq_true rfl)
  replace at_9 := va_at.keptA (b := h0) (z := 19) 3 at_9 o_74 (Nat.le_of_ble_eq_true rfl)
  replace at_13 := va_at.keptA (b := h0) (z := 19) 4 at_13 o_74 (Nat.le_of_ble_eq_true rfl)
  replace at_17 := va_at.keptA (b := h0) (z := 19) 5 at_17 o_74 (Nat.le_of_ble_eq_true rfl)
  replace at_21 := va_at.keptA (b := h0) (z := 19) 6 at_21 o_74 (Nat.le_of_ble_eq_true rfl)
  replace at_25 := va_at.keptA (b := h0) (z := 19) 7 at_25 o_74 (Nat.le_of_ble_eq_true rfl)
  replace at_29 := va_at.keptA (b := h0) (z := 19) 8 at_29 o_74 (Nat.le_of_ble_eq_true rfl)
  replace at_33 := va_at.keptA (b := h0) (z := 19) 9 at_33 o_74 (Nat.le_of_ble_eq_true rfl)
  replace at_37 := va_at.keptA (b := h0) (z := 19) 10 at_37 o_74 (Nat.le_of_ble_eq_true rfl)
  replace at_41 := va_at.keptA (b := h0) (z := 19) 11 at_41 o_74 (Nat.le_of_ble_eq_true rfl)
  replace at_45 := va_at.keptA (b := h0) (z := 19) 12 at_45 o_74 (Nat.le_of_ble_eq_true rfl)
  replace at_49 := va_at.keptA (b := h0) (z := 19) 13 at_49 o_74 (Nat.le_of_ble_eq_true rfl)
  replace at_53 := va_at.keptA (b := h0) (z := 19) 14 at_53 o_74 (Nat.le_of_ble_eq_true rfl)
  replace at_57 := va_at.keptA (b := h0) (z := 19) 15 at_57 o_74 (Nat.le_of_ble_eq_true rfl)
  replace at_61 := va_at.keptA (b := h0) (z := 19) 16 at_61 o_74 (Nat.le_of_ble_eq_true rfl)
  replace at_65 := va_at.keptA (b := h0) (z := 19) 17 at_65 o_74 (Nat.le_of_ble_eq_true rfl)
  replace at_69 := va_at.keptA (b := h0) (z := 19) 18 at_69 o_74 (Nat.le_of_ble_eq_true rfl)
  clear o_74
  have hz : H.size = h0 + 20 := hz
  refine nw_putF (D := D) (ci := 9) (v := .ref (h0 + 19)) (ty := .array .int) (C := RX10) (T := TX10) (N := 36) hx hb hts in10 tyX10 tyX10_ok nmX10 hown hK hS (Nat.le_refl _) at0 rfl 24 (by decide) (hts (.fieldLink RX10 65 "RiverModelModel" "ahead" "[I") (List.mem_of_getElem? (i := 24) rfl)) (fun _ h9 => h9) rfl hin rfl (by decide +kernel) rfl rfl (Nat.le_of_ble_eq_true rfl) dX10_init_152 (fun H locs at0 hz_76 o_75 hS => ?_)
  have at0 : va_at D vwCl (h0, .inr (9, [.int 0, .ref (h0 + 1), .int 0, .int 0, .ref (h0 + 2), .ref (h0 + 3), .ref (h0 + 4), .ref (h0 + 5), .int 0, .ref (h0 + 6), .ref (h0 + 7), .ref (h0 + 8), .ref (h0 + 9), .int 0, .ref (h0 + 10), .ref (h0 + 11), .ref (h0 + 12), .int 0, .ref (h0 + 13), .ref (h0 + 14), .ref (h0 + 15), .ref (h0 + 16), .ref (h0 + 17), .ref (h0 + 18), .ref (h0 + 19), .null, .null, .int 0, .int 0, .int 0, .int 0, .int 0, .null, .int 0, .int 0, .null])) H := at0
  replace hz : H.size = h0 + 20 := hz_76.trans hz
  replace at_1 := va_at.keptP (b := h0) (j := 0) 1 at_1 o_75 rfl
  replace at_5 := va_at.keptP (b := h0) (j := 0) 2 at_5 o_75 rfl
  replace at_9 := va_at.keptP (b := h0) (j := 0) 3 at_9 o_75 rfl
  replace at_13 := va_at.keptP (b := h0) (j := 0) 4 at_13 o_75 rfl
  replace at_17 := va_at.keptP (b := h0) (j := 0) 5 at_17 o_75 rfl
  replace at_21 := va_at.keptP (b := h0) (j := 0) 6 at_21 o_75 rfl
  replace at_25 := va_at.keptP (b := h0) (j := 0) 7 at_25 o_75 rfl
  replace at_29 := va_at.keptP (b := h0) (j := 0) 8 at_29 o_75 rfl
  replace at_33 := va_at.keptP (b := h0) (j := 0) 9 at_33 o_75 rfl
  replace at_37 := va_at.keptP (b := h0) (j := 0) 10 at_37 o_75 rfl
  replace at_41 := va_at.keptP (b := h0) (j := 0) 11 at_41 o_75 rfl
  replace at_45 := va_at.keptP (b := h0) (j := 0) 12 at_45 o_75 rfl
  replace at_49 := va_at.keptP (b := h0) (j := 0) 13 at_49 o_75 rfl
  replace at_53 := va_at.keptP (b := h0) (j := 0) 14 at_53 o_75 rfl
  replace at_57 := va_at.keptP (b := h0) (j := 0) 15 at_57 o_75 rfl
  replace at_61 := va_at.keptP (b := h0) (j := 0) 16 at_61 o_75 rfl
  replace at_65 := va_at.keptP (b := h0) (j := 0) 17 at_65 o_75 rfl
  replace at_69 := va_at.keptP (b := h0) (j := 0) 18 at_69 o_75 rfl
  replace at_73 := va_at.keptP (b := h0) (j := 0) 19 at_73 o_75 rfl
  clear o_75 hz_76
  refine lv_aload_n hx hb dX10_init_155 rfl (lv_at hl 0 rfl) ?_
  refine lv_pc (pc2 := 156) rfl ?_
  refine lv_iconst (v := 4) hx hb dX10_init_156 (by decide) ?_
  refine nw_newI (N := 4) (z := h0 + 20) hx hb (hts (.arrayClass .int) (List.mem_of_getElem? (i := 4) rfl)) hK hS hz (Nat.le_add_right _ _) (by decide) (by decide) (by decide) (Nat.le_of_ble_eq_true rfl) (Nat.le_of_ble_eq_true rfl) dX10_init_157 (fun H at_77 hz o_78 hS => ?_)
  replace at0 := va_at.keptA (b := h0) (z := 20) 0 at0 o_78 (Nat.le_of_ble_eq_true rfl)
  replace at_1 := va_at.keptA (b := h0) (z := 20) 1 at_1 o_78 (Nat.le_of_ble_eq_true rfl)
  replace at_5 := va_at.keptA (b := h0) (z := 20) 2 at_5 o_78 (Nat.le_of_ble_eq_true rfl)
  replace at_9 := va_at.keptA (b := h0) (z := 20) 3 at_9 o_78 (Nat.le_of_ble_eq_true rfl)
  replace at_13 := va_at.keptA (b := h0) (z := 20) 4 at_13 o_78 (Nat.le_of_ble_eq_true rfl)
  replace at_17 := va_at.keptA (b := h0) (z := 20) 5 at_17 o_78 (Nat.le_of_ble_eq_true rfl)
  replace at_21 := va_at.keptA (b := h0) (z := 20) 6 at_21 o_78 (Nat.le_of_ble_eq_true rfl)
  replace at_25 := va_at.keptA (b := h0) (z := 20) 7 at_25 o_78 (Nat.le_of_ble_eq_true rfl)
  replace at_29 := va_at.keptA (b := h0) (z := 20) 8 at_29 o_78 (Nat.le_of_ble_eq_true rfl)
  replace at_33 := va_at.keptA (b := h0) (z := 20) 9 at_33 o_78 (Nat.le_of_ble_eq_true rfl)
  replace at_37 := va_at.keptA (b := h0) (z := 20) 10 at_37 o_78 (Nat.le_of_ble_eq_true rfl)
  replace at_41 := va_at.keptA (b := h0) (z := 20) 11 at_41 o_78 (Nat.le_of_ble_eq_true rfl)
  replace at_45 := va_at.keptA (b := h0) (z := 20) 12 at_45 o_78 (Nat.le_of_ble_eq_true rfl)
  replace at_49 := va_at.keptA (b := h0) (z := 20) 13 at_49 o_78 (Nat.le_of_ble_eq_true rfl)
  replace at_53 := va_at.keptA (b := h0) (z := 20) 14 at_53 o_78 (Nat.le_of_ble_eq_true rfl)
  replace at_57 := va_at.keptA (b := h0) (z := 20) 15 at_57 o_78 (Nat.le_of_ble_eq_true rfl)
  replace at_61 := va_at.keptA (b := h0) (z := 20) 16 at_61 o_78 (Nat.le_of_ble_eq_true rfl)
  replace at_65 := va_at.keptA (b := h0) (z := 20) 17 at_65 o_78 (Nat.le_of_ble_eq_true rfl)
  replace at_69 := va_at.keptA (b := h0) (z := 20) 18 at_69 o_78 (Nat.le_of_ble_eq_true rfl)
  replace at_73 := va_at.keptA (b := h0) (z := 20) 19 at_73 o_78 (Nat.le_of_ble_eq_true rfl)
  clear o_78
  have hz : H.size = h0 + 21 := hz
  refine nw_putF (D := D) (ci := 9) (v := .ref (h0 + 20)) (ty := .array .int) (C := RX10) (T := TX10) (N := 36) hx hb hts in10 tyX10 tyX10_ok nmX10 hown hK hS (Nat.le_refl _) at0 rfl 25 (by decide) (hts (.fieldLink RX10 68 "RiverModelModel" "booked" "[I") (List.mem_of_getElem? (i := 25) rfl)) (fun _ h9 => h9) rfl hin rfl (by decide +kernel) rfl rfl (Nat.le_of_ble_eq_true rfl) dX10_init_159 (fun H locs at0 hz_80 o_79 hS => ?_)
  have at0 : va_at D vwCl (h0, .inr (9, [.int 0, .ref (h0 + 1), .int 0, .int 0, .ref (h0 + 2), .ref (h0 + 3), .ref (h0 + 4), .ref (h0 + 5), .int 0, .ref (h0 + 6), .ref (h0 + 7), .ref (h0 + 8), .ref (h0 + 9), .int 0, .ref (h0 + 10), .ref (h0 + 11), .ref (h0 + 12), .int 0, .ref (h0 + 13), .ref (h0 + 14), .ref (h0 + 15), .ref (h0 + 16), .ref (h0 + 17), .ref (h0 + 18), .ref (h0 + 19), .ref (h0 + 20), .null, .int 0, .int 0, .int 0, .int 0, .int 0, .null, .int 0, .int 0, .null])) H := at0
  replace hz : H.size = h0 + 21 := hz_80.trans hz
  replace at_1 := va_at.keptP (b := h0) (j := 0) 1 at_1 o_79 rfl
  replace at_5 := va_at.keptP (b := h0) (j := 0) 2 at_5 o_79 rfl
  replace at_9 := va_at.keptP (b := h0) (j := 0) 3 at_9 o_79 rfl
  replace at_13 := va_at.keptP (b := h0) (j := 0) 4 at_13 o_79 rfl
  replace at_17 := va_at.keptP (b := h0) (j := 0) 5 at_17 o_79 rfl
  replace at_21 := va_at.keptP (b := h0) (j := 0) 6 at_21 o_79 rfl
  replace at_25 := va_at.keptP (b := h0) (j := 0) 7 at_25 o_79 rfl
  replace at_29 := va_at.keptP (b := h0) (j := 0) 8 at_29 o_79 rfl
  replace at_33 := va_at.keptP (b := h0) (j := 0) 9 at_33 o_79 rfl
  replace at_37 := va_at.keptP (b := h0) (j := 0) 10 at_37 o_79 rfl
  replace at_41 := va_at.keptP (b := h0) (j := 0) 11 at_41 o_79 rfl
  replace at_45 := va_at.keptP (b := h0) (j := 0) 12 at_45 o_79 rfl
  replace at_49 := va_at.keptP (b := h0) (j := 0) 13 at_49 o_79 rfl
  replace at_53 := va_at.keptP (b := h0) (j := 0) 14 at_53 o_79 rfl
  replace at_57 := va_at.keptP (b := h0) (j := 0) 15 at_57 o_79 rfl
  replace at_61 := va_at.keptP (b := h0) (j := 0) 16 at_61 o_79 rfl
  replace at_65 := va_at.keptP (b := h0) (j := 0) 17 at_65 o_79 rfl
  replace at_69 := va_at.keptP (b := h0) (j := 0) 18 at_69 o_79 rfl
  replace at_73 := va_at.keptP (b := h0) (j := 0) 19 at_73 o_79 rfl
  replace at_77 := va_at.keptP (b := h0) (j := 0) 20 at_77 o_79 rfl
  clear o_79 hz_80
  refine lv_aload_n hx hb dX10_init_162 rfl (lv_at hl 0 rfl) ?_
  refine lv_bipush (v := 16) hx hb dX10_init_163 (by decide) ?_
  refine nw_newI (N := 16) (z := h0 + 21) hx hb (hts (.arrayClass .int) (List.mem_of_getElem? (i := 4) rfl)) hK hS hz (Nat.le_add_right _ _) (by decide) (by decide) (by decide) (Nat.le_of_ble_eq_true rfl) (Nat.le_of_ble_eq_true rfl) dX10_init_165 (fun H at_81 hz o_82 hS => ?_)
  replace at0 := va_at.keptA (b := h0) (z := 21) 0 at0 o_82 (Nat.le_of_ble_eq_true rfl)
  replace at_1 := va_at.keptA (b := h0) (z := 21) 1 at_1 o_82 (Nat.le_of_ble_eq_true rfl)
  replace at_5 := va_at.keptA (b := h0) (z := 21) 2 at_5 o_82 (Nat.le_of_ble_eq_true rfl)
  replace at_9 := va_at.keptA (b := h0) (z := 21) 3 at_9 o_82 (Nat.le_of_ble_eq_true rfl)
  replace at_13 := va_at.keptA (b := h0) (z := 21) 4 at_13 o_82 (Nat.le_of_ble_eq_true rfl)
  replace at_17 := va_at.keptA (b := h0) (z := 21) 5 at_17 o_82 (Nat.le_of_ble_eq_true rfl)
  replace at_21 := va_at.keptA (b := h0) (z := 21) 6 at_21 o_82 (Nat.le_of_ble_eq_true rfl)
  replace at_25 := va_at.keptA (b := h0) (z := 21) 7 at_25 o_82 (Nat.le_of_ble_eq_true rfl)
  replace at_29 := va_at.keptA (b := h0) (z := 21) 8 at_29 o_82 (Nat.le_of_ble_eq_true rfl)
  replace at_33 := va_at.keptA (b := h0) (z := 21) 9 at_33 o_82 (Nat.le_of_ble_eq_true rfl)
  replace at_37 := va_at.keptA (b := h0) (z := 21) 10 at_37 o_82 (Nat.le_of_ble_eq_true rfl)
  replace at_41 := va_at.keptA (b := h0) (z := 21) 11 at_41 o_82 (Nat.le_of_ble_eq_true rfl)
  replace at_45 := va_at.keptA (b := h0) (z := 21) 12 at_45 o_82 (Nat.le_of_ble_eq_true rfl)
  replace at_49 := va_at.keptA (b := h0) (z := 21) 13 at_49 o_82 (Nat.le_of_ble_eq_true rfl)
  replace at_53 := va_at.keptA (b := h0) (z := 21) 14 at_53 o_82 (Nat.le_of_ble_eq_true rfl)
  replace at_57 := va_at.keptA (b := h0) (z := 21) 15 at_57 o_82 (Nat.le_of_ble_eq_true rfl)
  replace at_61 := va_at.keptA (b := h0) (z := 21) 16 at_61 o_82 (Nat.le_of_ble_eq_true rfl)
  replace at_65 := va_at.keptA (b := h0) (z := 21) 17 at_65 o_82 (Nat.le_of_ble_eq_true rfl)
  replace at_69 := va_at.keptA (b := h0) (z := 21) 18 at_69 o_82 (Nat.le_of_ble_eq_true rfl)
  replace at_73 := va_at.keptA (b := h0) (z := 21) 19 at_73 o_82 (Nat.le_of_ble_eq_true rfl)
  replace at_77 := va_at.keptA (b := h0) (z := 21) 20 at_77 o_82 (Nat.le_of_ble_eq_true rfl)
  clear o_82
  have hz : H.size = h0 + 22 := hz
  refine nw_putF (D := D) (ci := 9) (v := .ref (h0 + 21)) (ty := .array .int) (C := RX10) (T := TX10) (N := 36) hx hb hts in10 tyX10 tyX10_ok nmX10 hown hK hS (Nat.le_refl _) at0 rfl 26 (by decide) (hts (.fieldLink RX10 71 "RiverModelModel" "startB" "[I") (List.mem_of_getElem? (i := 26) rfl)) (fun _ h9 => h9) rfl hin rfl (by decide +kernel) rfl rfl (Nat.le_of_ble_eq_true rfl) dX10_init_167 (fun H locs at0 hz_84 o_83 hS => ?_)
  have at0 : va_at D vwCl (h0, .inr (9, [.int 0, .ref (h0 + 1), .int 0, .int 0, .ref (h0 + 2), .ref (h0 + 3), .ref (h0 + 4), .ref (h0 + 5), .int 0, .ref (h0 + 6), .ref (h0 + 7), .ref (h0 + 8), .ref (h0 + 9), .int 0, .ref (h0 + 10), .ref (h0 + 11), .ref (h0 + 12), .int 0, .ref (h0 + 13), .ref (h0 + 14), .ref (h0 + 15), .ref (h0 + 16), .ref (h0 + 17), .ref (h0 + 18), .ref (h0 + 19), .ref (h0 + 20), .ref (h0 + 21), .int 0, .int 0, .int 0, .int 0, .int 0, .null, .int 0, .int 0, .null])) H := at0
  replace hz : H.size = h0 + 22 := hz_84.trans hz
  replace at_1 := va_at.keptP (b := h0) (j := 0) 1 at_1 o_83 rfl
  replace at_5 := va_at.keptP (b := h0) (j := 0) 2 at_5 o_83 rfl
  replace at_9 := va_at.keptP (b := h0) (j := 0) 3 at_9 o_83 rfl
  replace at_13 := va_at.keptP (b := h0) (j := 0) 4 at_13 o_83 rfl
  replace at_17 := va_at.keptP (b := h0) (j := 0) 5 at_17 o_83 rfl
  replace at_21 := va_at.keptP (b := h0) (j := 0) 6 at_21 o_83 rfl
  replace at_25 := va_at.keptP (b := h0) (j := 0) 7 at_25 o_83 rfl
  replace at_29 := va_at.keptP (b := h0) (j := 0) 8 at_29 o_83 rfl
  replace at_33 := va_at.keptP (b := h0) (j := 0) 9 at_33 o_83 rfl
  replace at_37 := va_at.keptP (b := h0) (j := 0) 10 at_37 o_83 rfl
  replace at_41 := va_at.keptP (b := h0) (j := 0) 11 at_41 o_83 rfl
  replace at_45 := va_at.keptP (b := h0) (j := 0) 12 at_45 o_83 rfl
  replace at_49 := va_at.keptP (b := h0) (j := 0) 13 at_49 o_83 rfl
  replace at_53 := va_at.keptP (b := h0) (j := 0) 14 at_53 o_83 rfl
  replace at_57 := va_at.keptP (b := h0) (j := 0) 15 at_57 o_83 rfl
  replace at_61 := va_at.keptP (b := h0) (j := 0) 16 at_61 o_83 rfl
  replace at_65 := va_at.keptP (b := h0) (j := 0) 17 at_65 o_83 rfl
  replace at_69 := va_at.keptP (b := h0) (j := 0) 18 at_69 o_83 rfl
  replace at_73 := va_at.keptP (b := h0) (j := 0) 19 at_73 o_83 rfl
  replace at_77 := va_at.keptP (b := h0) (j := 0) 20 at_77 o_83 rfl
  replace at_81 := va_at.keptP (b := h0) (j := 0) 21 at_81 o_83 rfl
  clear o_83 hz_84
  refine lv_aload_n hx hb dX10_init_170 rfl (lv_at hl 0 rfl) ?_
  refine lv_pc (pc2 := 171) rfl ?_
  refine lv_iconst (v := 3) hx hb dX10_init_171 (by decide) ?_
  refine nw_newI (N := 3) (z := h0 + 22) hx hb (hts (.arrayClass .int) (List.mem_of_getElem? (i := 4) rfl)) hK hS hz (Nat.le_add_right _ _) (by decide) (by decide) (by decide) (Nat.le_of_ble_eq_true rfl) (Nat.le_of_ble_eq_true rfl) dX10_init_172 (fun H at_85 hz o_86 hS => ?_)
  replace at0 := va_at.keptA (b := h0) (z := 22) 0 at0 o_86 (Nat.le_of_ble_eq_true rfl)
  replace at_1 := va_at.keptA (b := h0) (z := 22) 1 at_1 o_86 (Nat.le_of_ble_eq_true rfl)
  replace at_5 := va_at.keptA (b := h0) (z := 22) 2 at_5 o_86 (Nat.le_of_ble_eq_true rfl)
  replace at_9 := va_at.keptA (b := h0) (z := 22) 3 at_9 o_86 (Nat.le_of_ble_eq_true rfl)
  replace at_13 := va_at.keptA (b := h0) (z := 22) 4 at_13 o_86 (Nat.le_of_ble_eq_true rfl)
  replace at_17 := va_at.keptA (b := h0) (z := 22) 5 at_17 o_86 (Nat.le_of_ble_eq_true rfl)
  replace at_21 := va_at.keptA (b := h0) (z := 22) 6 at_21 o_86 (Nat.le_of_ble_eq_true rfl)
  replace at_25 := va_at.keptA (b := h0) (z := 22) 7 at_25 o_86 (Nat.le_of_ble_eq_true rfl)
  replace at_29 := va_at.keptA (b := h0) (z := 22) 8 at_29 o_86 (Nat.le_of_ble_eq_true rfl)
  replace at_33 := va_at.keptA (b := h0) (z := 22) 9 at_33 o_86 (Nat.le_of_ble_eq_true rfl)
  replace at_37 := va_at.keptA (b := h0) (z := 22) 10 at_37 o_86 (Nat.le_of_ble_eq_true rfl)
  replace at_41 := va_at.keptA (b := h0) (z := 22) 11 at_41 o_86 (Nat.le_of_ble_eq_true rfl)
  replace at_45 := va_at.keptA (b := h0) (z := 22) 12 at_45 o_86 (Nat.le_of_ble_eq_true rfl)
  replace at_49 := va_at.keptA (b := h0) (z := 22) 13 at_49 o_86 (Nat.le_of_ble_eq_true rfl)
  replace at_53 := va_at.keptA (b := h0) (z := 22) 14 at_53 o_86 (Nat.le_of_ble_eq_true rfl)
  replace at_57 := va_at.keptA (b := h0) (z := 22) 15 at_57 o_86 (Nat.le_of_ble_eq_true rfl)
  replace at_61 := va_at.keptA (b := h0) (z := 22) 16 at_61 o_86 (Nat.le_of_ble_eq_true rfl)
  replace at_65 := va_at.keptA (b := h0) (z := 22) 17 at_65 o_86 (Nat.le_of_ble_eq_true rfl)
  replace at_69 := va_at.keptA (b := h0) (z := 22) 18 at_69 o_86 (Nat.le_of_ble_eq_true rfl)
  replace at_73 := va_at.keptA (b := h0) (z := 22) 19 at_73 o_86 (Nat.le_of_ble_eq_true rfl)
  replace at_77 := va_at.keptA (b := h0) (z := 22) 20 at_77 o_86 (Nat.le_of_ble_eq_true rfl)
  replace at_81 := va_at.keptA (b := h0) (z := 22) 21 at_81 o_86 (Nat.le_of_ble_eq_true rfl)
  clear o_86
  have hz : H.size = h0 + 23 := hz
  refine nw_putF (D := D) (ci := 9) (v := .ref (h0 + 22)) (ty := .array .int) (C := RX10) (T := TX10) (N := 36) hx hb hts in10 tyX10 tyX10_ok nmX10 hown hK hS (Nat.le_refl _) at0 rfl 32 (by decide) (hts (.fieldLink RX10 74 "RiverModelModel" "readNumber" "[I") (List.mem_of_getElem? (i := 27) rfl)) (fun _ h9 => h9) rfl hin rfl (by decide +kernel) rfl rfl (Nat.le_of_ble_eq_true rfl) dX10_init_174 (fun H locs at0 hz_88 o_87 hS => ?_)
  have at0 : va_at D vwCl (h0, .inr (9, [.int 0, .ref (h0 + 1), .int 0, .int 0, .ref (h0 + 2), .ref (h0 + 3), .ref (h0 + 4), .ref (h0 + 5), .int 0, .ref (h0 + 6), .ref (h0 + 7), .ref (h0 + 8), .ref (h0 + 9), .int 0, .ref (h0 + 10), .ref (h0 + 11), .ref (h0 + 12), .int 0, .ref (h0 + 13), .ref (h0 + 14), .ref (h0 + 15), .ref (h0 + 16), .ref (h0 + 17), .ref (h0 + 18), .ref (h0 + 19), .ref (h0 + 20), .ref (h0 + 21), .int 0, .int 0, .int 0, .int 0, .int 0, .ref (h0 + 22), .int 0, .int 0, .null])) H := at0
  replace hz : H.size = h0 + 23 := hz_88.trans hz
  replace at_1 := va_at.keptP (b := h0) (j := 0) 1 at_1 o_87 rfl
  replace at_5 := va_at.keptP (b := h0) (j := 0) 2 at_5 o_87 rfl
  replace at_9 := va_at.keptP (b := h0) (j := 0) 3 at_9 o_87 rfl
  replace at_13 := va_at.keptP (b := h0) (j := 0) 4 at_13 o_87 rfl
  replace at_17 := va_at.keptP (b := h0) (j := 0) 5 at_17 o_87 rfl
  replace at_21 := va_at.keptP (b := h0) (j := 0) 6 at_21 o_87 rfl
  replace at_25 := va_at.keptP (b := h0) (j := 0) 7 at_25 o_87 rfl
  replace at_29 := va_at.keptP (b := h0) (j := 0) 8 at_29 o_87 rfl
  replace at_33 := va_at.keptP (b := h0) (j := 0) 9 at_33 o_87 rfl
  replace at_37 := va_at.keptP (b := h0) (j := 0) 10 at_37 o_87 rfl
  replace at_41 := va_at.keptP (b := h0) (j := 0) 11 at_41 o_87 rfl
  replace at_45 := va_at.keptP (b := h0) (j := 0) 12 at_45 o_87 rfl
  replace at_49 := va_at.keptP (b := h0) (j := 0) 13 at_49 o_87 rfl
  replace at_53 := va_at.keptP (b := h0) (j := 0) 14 at_53 o_87 rfl
  replace at_57 := va_at.keptP (b := h0) (j := 0) 15 at_57 o_87 rfl
  replace at_61 := va_at.keptP (b := h0) (j := 0) 16 at_61 o_87 rfl
  replace at_65 := va_at.keptP (b := h0) (j := 0) 17 at_65 o_87 rfl
  replace at_69 := va_at.keptP (b := h0) (j := 0) 18 at_69 o_87 rfl
  replace at_73 := va_at.keptP (b := h0) (j := 0) 19 at_73 o_87 rfl
  replace at_77 := va_at.keptP (b := h0) (j := 0) 20 at_77 o_87 rfl
  replace at_81 := va_at.keptP (b := h0) (j := 0) 21 at_81 o_87 rfl
  replace at_85 := va_at.keptP (b := h0) (j := 0) 22 at_85 o_87 rfl
  clear o_87 hz_88
  refine lv_aload_n hx hb dX10_init_177 rfl (lv_at hl 0 rfl) ?_
  refine lv_bipush (v := 96) hx hb dX10_init_178 (by decide) ?_
  refine nw_newL (N := 96) (z := h0 + 23) hx hb (hts (.arrayClass .long) (List.mem_of_getElem? (i := 11) rfl)) hK hS hz (Nat.le_add_right _ _) (by decide) (by decide) (by decide) (Nat.le_of_ble_eq_true rfl) (Nat.le_of_ble_eq_true rfl) dX10_init_180 (fun H at_89 hz o_90 hS => ?_)
  replace at0 := va_at.keptA (b := h0) (z := 23) 0 at0 o_90 (Nat.le_of_ble_eq_true rfl)
  replace at_1 := va_at.keptA (b := h0) (z := 23) 1 at_1 o_90 (Nat.le_of_ble_eq_true rfl)
  replace at_5 := va_at.keptA (b := h0) (z := 23) 2 at_5 o_90 (Nat.le_of_ble_eq_true rfl)
  replace at_9 := va_at.keptA (b := h0) (z := 23) 3 at_9 o_90 (Nat.le_of_ble_eq_true rfl)
  replace at_13 := va_at.keptA (b := h0) (z := 23) 4 at_13 o_90 (Nat.le_of_ble_eq_true rfl)
  replace at_17 := va_at.keptA (b := h0) (z := 23) 5 at_17 o_90 (Nat.le_of_ble_eq_true rfl)
  replace at_21 := va_at.keptA (b := h0) (z := 23) 6 at_21 o_90 (Nat.le_of_ble_eq_true rfl)
  replace at_25 := va_at.keptA (b := h0) (z := 23) 7 at_25 o_90 (Nat.le_of_ble_eq_true rfl)
  replace at_29 := va_at.keptA (b := h0) (z := 23) 8 at_29 o_90 (Nat.le_of_ble_eq_true rfl)
  replace at_33 := va_at.keptA (b := h0) (z := 23) 9 at_33 o_90 (Nat.le_of_ble_eq_true rfl)
  replace at_37 := va_at.keptA (b := h0) (z := 23) 10 at_37 o_90 (Nat.le_of_ble_eq_true rfl)
  replace at_41 := va_at.keptA (b := h0) (z := 23) 11 at_41 o_90 (Nat.le_of_ble_eq_true rfl)
  replace at_45 := va_at.keptA (b := h0) (z := 23) 12 at_45 o_90 (Nat.le_of_ble_eq_true rfl)
  replace at_49 := va_at.keptA (b := h0) (z := 23) 13 at_49 o_90 (Nat.le_of_ble_eq_true rfl)
  replace at_53 := va_at.keptA (b := h0) (z := 23) 14 at_53 o_90 (Nat.le_of_ble_eq_true rfl)
  replace at_57 := va_at.keptA (b := h0) (z := 23) 15 at_57 o_90 (Nat.le_of_ble_eq_true rfl)
  replace at_61 := va_at.keptA (b := h0) (z := 23) 16 at_61 o_90 (Nat.le_of_ble_eq_true rfl)
  replace at_65 := va_at.keptA (b := h0) (z := 23) 17 at_65 o_90 (Nat.le_of_ble_eq_true rfl)
  replace at_69 := va_at.keptA (b := h0) (z := 23) 18 at_69 o_90 (Nat.le_of_ble_eq_true rfl)
  replace at_73 := va_at.keptA (b := h0) (z := 23) 19 at_73 o_90 (Nat.le_of_ble_eq_true rfl)
  replace at_77 := va_at.keptA (b := h0) (z := 23) 20 at_77 o_90 (Nat.le_of_ble_eq_true rfl)
  replace at_81 := va_at.keptA (b := h0) (z := 23) 21 at_81 o_90 (Nat.le_of_ble_eq_true rfl)
  replace at_85 := va_at.keptA (b := h0) (z := 23) 22 at_85 o_90 (Nat.le_of_ble_eq_true rfl)
  clear o_90
  have hz : H.size = h0 + 24 := hz
  refine nw_putF (D := D) (ci := 9) (v := .ref (h0 + 23)) (ty := .array .long) (C := RX10) (T := TX10) (N := 36) hx hb hts in10 tyX10 tyX10_ok nmX10 hown hK hS (Nat.le_refl _) at0 rfl 35 (by decide) (hts (.fieldLink RX10 77 "RiverModelModel" "own" "[J") (List.mem_of_getElem? (i := 28) rfl)) (fun _ h9 => h9) rfl hin rfl (by decide +kernel) rfl rfl (Nat.le_of_ble_eq_true rfl) dX10_init_182 (fun H locs at0 hz_92 o_91 hS => ?_)
  have at0 : va_at D vwCl (h0, .inr (9, [.int 0, .ref (h0 + 1), .int 0, .int 0, .ref (h0 + 2), .ref (h0 + 3), .ref (h0 + 4), .ref (h0 + 5), .int 0, .ref (h0 + 6), .ref (h0 + 7), .ref (h0 + 8), .ref (h0 + 9), .int 0, .ref (h0 + 10), .ref (h0 + 11), .ref (h0 + 12), .int 0, .ref (h0 + 13), .ref (h0 + 14), .ref (h0 + 15), .ref (h0 + 16), .ref (h0 + 17), .ref (h0 + 18), .ref (h0 + 19), .ref (h0 + 20), .ref (h0 + 21), .int 0, .int 0, .int 0, .int 0, .int 0, .ref (h0 + 22), .int 0, .int 0, .ref (h0 + 23)])) H := at0
  replace hz : H.size = h0 + 24 := hz_92.trans hz
  replace at_1 := va_at.keptP (b := h0) (j := 0) 1 at_1 o_91 rfl
  replace at_5 := va_at.keptP (b := h0) (j := 0) 2 at_5 o_91 rfl
  replace at_9 := va_at.keptP (b := h0) (j := 0) 3 at_9 o_91 rfl
  replace at_13 := va_at.keptP (b := h0) (j := 0) 4 at_13 o_91 rfl
  replace at_17 := va_at.keptP (b := h0) (j := 0) 5 at_17 o_91 rfl
  replace at_21 := va_at.keptP (b := h0) (j := 0) 6 at_21 o_91 rfl
  replace at_25 := va_at.keptP (b := h0) (j := 0) 7 at_25 o_91 rfl
  replace at_29 := va_at.keptP (b := h0) (j := 0) 8 at_29 o_91 rfl
  replace at_33 := va_at.keptP (b := h0) (j := 0) 9 at_33 o_91 rfl
  replace at_37 := va_at.keptP (b := h0) (j := 0) 10 at_37 o_91 rfl
  replace at_41 := va_at.keptP (b := h0) (j := 0) 11 at_41 o_91 rfl
  replace at_45 := va_at.keptP (b := h0) (j := 0) 12 at_45 o_91 rfl
  replace at_49 := va_at.keptP (b := h0) (j := 0) 13 at_49 o_91 rfl
  replace at_53 := va_at.keptP (b := h0) (j := 0) 14 at_53 o_91 rfl
  replace at_57 := va_at.keptP (b := h0) (j := 0) 15 at_57 o_91 rfl
  replace at_61 := va_at.keptP (b := h0) (j := 0) 16 at_61 o_91 rfl
  replace at_65 := va_at.keptP (b := h0) (j := 0) 17 at_65 o_91 rfl
  replace at_69 := va_at.keptP (b := h0) (j := 0) 18 at_69 o_91 rfl
  replace at_73 := va_at.keptP (b := h0) (j := 0) 19 at_73 o_91 rfl
  replace at_77 := va_at.keptP (b := h0) (j := 0) 20 at_77 o_91 rfl
  replace at_81 := va_at.keptP (b := h0) (j := 0) 21 at_81 o_91 rfl
  replace at_85 := va_at.keptP (b := h0) (j := 0) 22 at_85 o_91 rfl
  replace at_89 := va_at.keptP (b := h0) (j := 0) 23 at_89 o_91 rfl
  clear o_91 hz_92
  refine lv_iconst (v := 0) hx hb dX10_init_185 (by decide) ?_
  refine lv_pc (pc2 := 186) rfl ?_
  refine lv_istore_n (lv' := [(1, .int 0), (0, .ref h0)]) hx hb dX10_init_186 rfl hl (by decide) rfl (fun ls hl => ?_)
  refine lv_pc (pc2 := 187) rfl ?_
  refine lp_gen (fun WW hWW => ?_)
  have kx : ∀ (f : Nat → Int32) (H1 : Heap) (locs1 : List Loc) (ls1 : Array Slot), va_at D vwCl (h0 + 6, .inl (cI, 384, .inl f)) H1 → H1.size = H.size → (∀ q : Nat, q ≠ h0 + 6 → H1[q]? = H[q]?) → cF h0 s.heap H1 locs1 → lv_has ls1 2 [(0, .ref h0)] → WW H1 locs1 (F0 m 212 ls1 []) := by
    intro fw H locs ls at_21 hz9 o9 hS hl
    refine (hWW _ _ _).mpr ?_
    replace hz : H.size = h0 + 24 := hz9.trans hz
    replace at0 := va_at.keptP (b := h0) (j := 6) 0 at0 o9 rfl
    replace at_1 := va_at.keptP (b := h0) (j := 6) 1 at_1 o9 rfl
    replace at_5 := va_at.keptP (b := h0) (j := 6) 2 at_5 o9 rfl
    replace at_9 := va_at.keptP (b := h0) (j := 6) 3 at_9 o9 rfl
    replace at_13 := va_at.keptP (b := h0) (j := 6) 4 at_13 o9 rfl
    replace at_17 := va_at.keptP (b := h0) (j := 6) 5 at_17 o9 rfl
    replace at_25 := va_at.keptP (b := h0) (j := 6) 7 at_25 o9 rfl
    replace at_29 := va_at.keptP (b := h0) (j := 6) 8 at_29 o9 rfl
    replace at_33 := va_at.keptP (b := h0) (j := 6) 9 at_33 o9 rfl
    replace at_37 := va_at.keptP (b := h0) (j := 6) 10 at_37 o9 rfl
    replace at_41 := va_at.keptP (b := h0) (j := 6) 11 at_41 o9 rfl
    replace at_45 := va_at.keptP (b := h0) (j := 6) 12 at_45 o9 rfl
    replace at_49 := va_at.keptP (b := h0) (j := 6) 13 at_49 o9 rfl
    replace at_53 := va_at.keptP (b := h0) (j := 6) 14 at_53 o9 rfl
    replace at_57 := va_at.keptP (b := h0) (j := 6) 15 at_57 o9 rfl
    replace at_61 := va_at.keptP (b := h0) (j := 6) 16 at_61 o9 rfl
    replace at_65 := va_at.keptP (b := h0) (j := 6) 17 at_65 o9 rfl
    replace at_69 := va_at.keptP (b := h0) (j := 6) 18 at_69 o9 rfl
    replace at_73 := va_at.keptP (b := h0) (j := 6) 19 at_73 o9 rfl
    replace at_77 := va_at.keptP (b := h0) (j := 6) 20 at_77 o9 rfl
    replace at_81 := va_at.keptP (b := h0) (j := 6) 21 at_81 o9 rfl
    replace at_85 := va_at.keptP (b := h0) (j := 6) 22 at_85 o9 rfl
    replace at_89 := va_at.keptP (b := h0) (j := 6) 23 at_89 o9 rfl
    refine lv_aload_n hx hb dX10_init_212 rfl (lv_at hl 0 rfl) ?_
    refine fg_call (W.runV (As := []) (rest := []) ⟨hx, hb, hml, hown, hts⟩ (c_forgets0 l D cI cL cC h0 (h0 + 10) (h0 + 12) (h0 + 17) _ _ _ _ rfl rfl rfl ⟨by omega, by omega, by omega⟩ ⟨by omega, by omega, by omega⟩) (cwV 0 hts gX10_init_X10_forgets rfl rfl rfl (by decide +kernel) ⟨Nat.le_of_ble_eq_true rfl, Nat.le_of_ble_eq_true rfl⟩) (fg_pre at0 at_37 at_45 at_65 hE) rfl rfl hl.1 rfl (lv_room (Nat.le_of_ble_eq_true rfl)) dX10_init_213 ⟨Nat.le_of_ble_eq_true rfl, Nat.le_of_ble_eq_true rfl⟩) hS ⟨Nat.le_add_right _ _, Nat.le_add_right _ _, Nat.le_add_right _ _⟩ (fun H locs g1 g2 g3 at_37 at_45 at_65 hg1 hg2 hg3 hz9 o9 hS => ?_)
    replace hz : H.size = h0 + 24 := hz9.trans hz
    replace at0 := va_at.kept3 (b := h0) (j1 := 10) (j2 := 12) (j3 := 17) 0 at0 o9 rfl
    replace at_1 := va_at.kept3 (b := h0) (j1 := 10) (j2 := 12) (j3 := 17) 1 at_1 o9 rfl
    replace at_5 := va_at.kept3 (b := h0) (j1 := 10) (j2 := 12) (j3 := 17) 2 at_5 o9 rfl
    replace at_9 := va_at.kept3 (b := h0) (j1 := 10) (j2 := 12) (j3 := 17) 3 at_9 o9 rfl
    replace at_13 := va_at.kept3 (b := h0) (j1 := 10) (j2 := 12) (j3 := 17) 4 at_13 o9 rfl
    replace at_17 := va_at.kept3 (b := h0) (j1 := 10) (j2 := 12) (j3 := 17) 5 at_17 o9 rfl
    replace at_21 := va_at.kept3 (b := h0) (j1 := 10) (j2 := 12) (j3 := 17) 6 at_21 o9 rfl
    replace at_25 := va_at.kept3 (b := h0) (j1 := 10) (j2 := 12) (j3 := 17) 7 at_25 o9 rfl
    replace at_29 := va_at.kept3 (b := h0) (j1 := 10) (j2 := 12) (j3 := 17) 8 at_29 o9 rfl
    replace at_33 := va_at.kept3 (b := h0) (j1 := 10) (j2 := 12) (j3 := 17) 9 at_33 o9 rfl
    replace at_41 := va_at.kept3 (b := h0) (j1 := 10) (j2 := 12) (j3 := 17) 11 at_41 o9 rfl
    replace at_49 := va_at.kept3 (b := h0) (j1 := 10) (j2 := 12) (j3 := 17) 13 at_49 o9 rfl
    replace at_53 := va_at.kept3 (b := h0) (j1 := 10) (j2 := 12) (j3 := 17) 14 at_53 o9 rfl
    replace at_57 := va_at.kept3 (b := h0) (j1 := 10) (j2 := 12) (j3 := 17) 15 at_57 o9 rfl
    replace at_61 := va_at.kept3 (b := h0) (j1 := 10) (j2 := 12) (j3 := 17) 16 at_61 o9 rfl
    replace at_69 := va_at.kept3 (b := h0) (j1 := 10) (j2 := 12) (j3 := 17) 18 at_69 o9 rfl
    replace at_73 := va_at.kept3 (b := h0) (j1 := 10) (j2 := 12) (j3 := 17) 19 at_73 o9 rfl
    replace at_77 := va_at.kept3 (b := h0) (j1 := 10) (j2 := 12) (j3 := 17) 20 at_77 o9 rfl
    replace at_81 := va_at.kept3 (b := h0) (j1 := 10) (j2 := 12) (j3 := 17) 21 at_81 o9 rfl
    replace at_85 := va_at.kept3 (b := h0) (j1 := 10) (j2 := 12) (j3 := 17) 22 at_85 o9 rfl
    replace at_89 := va_at.kept3 (b := h0) (j1 := 10) (j2 := 12) (j3 := 17) 23 at_89 o9 rfl
    have sg_93 : tS D (mF cI cL cC 0 0 (fun _ => 0) (fun _ => 0) (fun _ => 0) 0 0 0 (fun _ => 0) (fun _ => 0) (fun _ => 0) (fun _ => 0) 0 0 0 0 0 0 0 0 (fun _ => 0)) [41] (h0 + 1) H := tS.one at_1 (fun t => rfl)
    have sg_94 : tS D (mF cI cL cC 0 0 (fun _ => 0) (fun _ => 0) (fun _ => 0) 0 0 0 (fun _ => 0) (fun _ => 0) (fun _ => 0) (fun _ => 0) 0 0 0 0 0 0 0 0 (fun _ => 0)) [42] (h0 + 2) H := tS.one at_5 (fun t => rfl)
    have sg_95 : tS D (mF cI cL cC 0 0 (fun _ => 0) (fun _ => 0) (fun _ => 0) 0 0 0 (fun _ => 0) (fun _ => 0) (fun _ => 0) (fun _ => 0) 0 0 0 0 0 0 0 0 (fun _ => 0)) [43] (h0 + 3) H := tS.one at_9 (fun t => rfl)
    have sg_96 : tS D (mF cI cL cC 0 0 (fun _ => 0) (fun _ => 0) (fun _ => 0) 0 0 0 (fun _ => 0) (fun _ => 0) (fun _ => 0) (fun _ => 0) 0 0 0 0 0 0 0 0 (fun _ => 0)) [44] (h0 + 4) H := tS.one at_13 (fun t => rfl)
    have sg_97 : tS D (mF cI cL cC 0 0 (fun _ => 0) (fun _ => 0) (fun _ => 0) 0 0 0 (fun _ => 0) (fun _ => 0) (fun _ => 0) (fun _ => 0) 0 0 0 0 0 0 0 0 (fun _ => 0)) [45] (h0 + 5) H := tS.one at_17 (fun t => rfl)
    have sg_98 : tS D (mF cI cL cC 0 0 (fun _ => 0) (fun _ => 0) (fun _ => 0) 0 0 0 (fun _ => 0) (fun _ => 0) (fun _ => 0) (fun _ => 0) 0 0 0 0 0 0 0 0 (fun _ => 0)) [46] (h0 + 6) H := tS.one at_21 (fun t => ⟨_, rfl⟩)
    have sg_99 : tS D (mF cI cL cC 0 0 (fun _ => 0) (fun _ => 0) (fun _ => 0) 0 0 0 (fun _ => 0) (fun _ => 0) (fun _ => 0) (fun _ => 0) 0 0 0 0 0 0 0 0 (fun _ => 0)) [47] (h0 + 7) H := tS.one at_25 (fun t => ⟨_, rfl, (by show (0 : Int64).toInt = 0; decide)⟩)
    have sg_100 : tS D (mF cI cL cC 0 0 (fun _ => 0) (fun _ => 0) (fun _ => 0) 0 0 0 (fun _ => 0) (fun _ => 0) (fun _ => 0) (fun _ => 0) 0 0 0 0 0 0 0 0 (fun _ => 0)) [48] (h0 + 8) H := tS.one at_29 (fun t => ⟨_, rfl, (by show (0 : Int64).toInt = 0; decide)⟩)
    have sg_101 : tS D (mF cI cL cC 0 0 (fun _ => 0) (fun _ => 0) (fun _ => 0) 0 0 0 (fun _ => 0) (fun _ => 0) (fun _ => 0) (fun _ => 0) 0 0 0 0 0 0 0 0 (fun _ => 0)) [49] (h0 + 9) H := tS.one at_33 (fun t => ⟨_, rfl, (fun _ _ => by show 0 ≤ (0 : Int64).toInt ∧ (0 : Int64).toInt ≤ 96; decide)⟩)
    have sg_102 : tS D (mF cI cL cC 0 0 (fun _ => 0) (fun _ => 0) (fun _ => 0) 0 0 0 (fun _ => 0) (fun _ => 0) (fun _ => 0) (fun _ => 0) 0 0 0 0 0 0 0 0 (fun _ => 0)) [50] (h0 + 10) H := tS.one at_37 (fun t => ⟨_, rfl⟩)
    have sg_103 : tS D (mF cI cL cC 0 0 (fun _ => 0) (fun _ => 0) (fun _ => 0) 0 0 0 (fun _ => 0) (fun _ => 0) (fun _ => 0) (fun _ => 0) 0 0 0 0 0 0 0 0 (fun _ => 0)) [51] (h0 + 11) H := tS.one at_41 (fun t => ⟨_, rfl, (fun _ _ => by show 0 ≤ (0 : Int32).toInt ∧ (0 : Int32).toInt ≤ 39; decide)⟩)
    have sg_104 : tS D (mF cI cL cC 0 0 (fun _ => 0) (fun _ => 0) (fun _ => 0) 0 0 0 (fun _ => 0) (fun _ => 0) (fun _ => 0) (fun _ => 0) 0 0 0 0 0 0 0 0 (fun _ => 0)) [52] (h0 + 12) H := tS.one at_45 (fun t => ⟨_, rfl⟩)
    have sg_105 : tS D (mF cI cL cC 0 0 (fun _ => 0) (fun _ => 0) (fun _ => 0) 0 0 0 (fun _ => 0) (fun _ => 0) (fun _ => 0) (fun _ => 0) 0 0 0 0 0 0 0 0 (fun _ => 0)) [53] (h0 + 13) H := tS.one at_49 (fun t => ⟨_, rfl, (fun _ _ => by show 0 ≤ (0 : Int32).toInt ∧ (0 : Int32).toInt ≤ 39; decide)⟩)
    have sg_106 : tS D (mF cI cL cC 0 0 (fun _ => 0) (fun _ => 0) (fun _ => 0) 0 0 0 (fun _ => 0) (fun _ => 0) (fun _ => 0) (fun _ => 0) 0 0 0 0 0 0 0 0 (fun _ => 0)) [54] (h0 + 14) H := tS.one at_53 (fun t => ⟨_, rfl, (fun _ _ => by show 0 ≤ (0 : Int32).toInt ∧ (0 : Int32).toInt ≤ 2; decide)⟩)
    have sg_107 : tS D (mF cI cL cC 0 0 (fun _ => 0) (fun _ => 0) (fun _ => 0) 0 0 0 (fun _ => 0) (fun _ => 0) (fun _ => 0) (fun _ => 0) 0 0 0 0 0 0 0 0 (fun _ => 0)) [55] (h0 + 15) H := tS.one at_57 (fun t => ⟨_, rfl⟩)
    have sg_108 : tS D (mF cI cL cC 0 0 (fun _ => 0) (fun _ => 0) (fun _ => 0) 0 0 0 (fun _ => 0) (fun _ => 0) (fun _ => 0) (fun _ => 0) 0 0 0 0 0 0 0 0 (fun _ => 0)) [56] (h0 + 16) H := tS.one at_61 (fun t => ⟨_, rfl⟩)
    have sg_109 : tS D (mF cI cL cC 0 0 (fun _ => 0) (fun _ => 0) (fun _ => 0) 0 0 0 (fun _ => 0) (fun _ => 0) (fun _ => 0) (fun _ => 0) 0 0 0 0 0 0 0 0 (fun _ => 0)) [57] (h0 + 17) H := tS.one at_65 (fun t => ⟨_, rfl, (fun j hj => by rw [hg3 j hj]; decide)⟩)
    have sg_110 : tS D (mF cI cL cC 0 0 (fun _ => 0) (fun _ => 0) (fun _ => 0) 0 0 0 (fun _ => 0) (fun _ => 0) (fun _ => 0) (fun _ => 0) 0 0 0 0 0 0 0 0 (fun _ => 0)) [58] (h0 + 18) H := tS.one at_69 (fun t => rfl)
    have sg_111 : tS D (mF cI cL cC 0 0 (fun _ => 0) (fun _ => 0) (fun _ => 0) 0 0 0 (fun _ => 0) (fun _ => 0) (fun _ => 0) (fun _ => 0) 0 0 0 0 0 0 0 0 (fun _ => 0)) [59] (h0 + 19) H := tS.one at_73 (fun t => rfl)
    have sg_112 : tS D (mF cI cL cC 0 0 (fun _ => 0) (fun _ => 0) (fun _ => 0) 0 0 0 (fun _ => 0) (fun _ => 0) (fun _ => 0) (fun _ => 0) 0 0 0 0 0 0 0 0 (fun _ => 0)) [60] (h0 + 20) H := tS.one at_77 (fun t => ⟨_, rfl⟩)
    have sg_113 : tS D (mF cI cL cC 0 0 (fun _ => 0) (fun _ => 0) (fun _ => 0) 0 0 0 (fun _ => 0) (fun _ => 0) (fun _ => 0) (fun _ => 0) 0 0 0 0 0 0 0 0 (fun _ => 0)) [61] (h0 + 21) H := tS.one at_81 (fun t => ⟨_, rfl⟩)
    have sg_114 : tS D (mF cI cL cC 0 0 (fun _ => 0) (fun _ => 0) (fun _ => 0) 0 0 0 (fun _ => 0) (fun _ => 0) (fun _ => 0) (fun _ => 0) 0 0 0 0 0 0 0 0 (fun _ => 0)) [62] (h0 + 22) H := tS.one at_85 (fun t => rfl)
    have sg_115 : tS D (mF cI cL cC 0 0 (fun _ => 0) (fun _ => 0) (fun _ => 0) 0 0 0 (fun _ => 0) (fun _ => 0) (fun _ => 0) (fun _ => 0) 0 0 0 0 0 0 0 0 (fun _ => 0)) [63] (h0 + 23) H := tS.one at_89 (fun t => ⟨_, rfl⟩)
    have sj_116 : tS D (mF cI cL cC 0 0 (fun _ => 0) (fun _ => 0) (fun _ => 0) 0 0 0 (fun _ => 0) (fun _ => 0) (fun _ => 0) (fun _ => 0) 0 0 0 0 0 0 0 0 (fun _ => 0)) [62, 63] (h0 + 22) H := tS.app3 1 sg_114 sg_115 rfl rfl
    have sj_117 : tS D (mF cI cL cC 0 0 (fun _ => 0) (fun _ => 0) (fun _ => 0) 0 0 0 (fun _ => 0) (fun _ => 0) (fun _ => 0) (fun _ => 0) 0 0 0 0 0 0 0 0 (fun _ => 0)) [61, 62, 63] (h0 + 21) H := tS.app3 1 sg_113 sj_116 rfl rfl
    have sj_118 : tS D (mF cI cL cC 0 0 (fun _ => 0) (fun _ => 0) (fun _ => 0) 0 0 0 (fun _ => 0) (fun _ => 0) (fun _ => 0) (fun _ => 0) 0 0 0 0 0 0 0 0 (fun _ => 0)) [60, 61, 62, 63] (h0 + 20) H := tS.app3 1 sg_112 sj_117 rfl rfl
    have sj_119 : tS D (mF cI cL cC 0 0 (fun _ => 0) (fun _ => 0) (fun _ => 0) 0 0 0 (fun _ => 0) (fun _ => 0) (fun _ => 0) (fun _ => 0) 0 0 0 0 0 0 0 0 (fun _ => 0)) [59, 60, 61, 62, 63] (h0 + 19) H := tS.app3 1 sg_111 sj_118 rfl rfl
    have sj_120 : tS D (mF cI cL cC 0 0 (fun _ => 0) (fun _ => 0) (fun _ => 0) 0 0 0 (fun _ => 0) (fun _ => 0) (fun _ => 0) (fun _ => 0) 0 0 0 0 0 0 0 0 (fun _ => 0)) [58, 59, 60, 61, 62, 63] (h0 + 18) H := tS.app3 1 sg_110 sj_119 rfl rfl
    have sj_121 : tS D (mF cI cL cC 0 0 (fun _ => 0) (fun _ => 0) (fun _ => 0) 0 0 0 (fun _ => 0) (fun _ => 0) (fun _ => 0) (fun _ => 0) 0 0 0 0 0 0 0 0 (fun _ => 0)) [57, 58, 59, 60, 61, 62, 63] (h0 + 17) H := tS.app3 1 sg_109 sj_120 rfl rfl
    have sj_122 : tS D (mF cI cL cC 0 0 (fun _ => 0) (fun _ => 0) (fun _ => 0) 0 0 0 (fun _ => 0) (fun _ => 0) (fun _ => 0) (fun _ => 0) 0 0 0 0 0 0 0 0 (fun _ => 0)) [56, 57, 58, 59, 60, 61, 62, 63] (h0 + 16) H := tS.app3 1 sg_108 sj_121 rfl rfl
    have sj_123 : tS D (mF cI cL cC 0 0 (fun _ => 0) (fun _ => 0) (fun _ => 0) 0 0 0 (fun _ => 0) (fun _ => 0) (fun _ => 0) (fun _ => 0) 0 0 0 0 0 0 0 0 (fun _ => 0)) [55, 56, 57, 58, 59, 60, 61, 62, 63] (h0 + 15) H := tS.app3 1 sg_107 sj_122 rfl rfl
    have sj_124 : tS D (mF cI cL cC 0 0 (fun _ => 0) (fun _ => 0) (fun _ => 0) 0 0 0 (fun _ => 0) (fun _ => 0) (fun _ => 0) (fun _ => 0) 0 0 0 0 0 0 0 0 (fun _ => 0)) [54, 55, 56, 57, 58, 59, 60, 61, 62, 63] (h0 + 14) H := tS.app3 1 sg_106 sj_123 rfl rfl
    have sj_125 : tS D (mF cI cL cC 0 0 (fun _ => 0) (fun _ => 0) (fun _ => 0) 0 0 0 (fun _ => 0) (fun _ => 0) (fun _ => 0) (fun _ => 0) 0 0 0 0 0 0 0 0 (fun _ => 0)) [53, 54, 55, 56, 57, 58, 59, 60, 61, 62, 63] (h0 + 13) H := tS.app3 1 sg_105 sj_124 rfl rfl
    have sj_126 : tS D (mF cI cL cC 0 0 (fun _ => 0) (fun _ => 0) (fun _ => 0) 0 0 0 (fun _ => 0) (fun _ => 0) (fun _ => 0) (fun _ => 0) 0 0 0 0 0 0 0 0 (fun _ => 0)) [52, 53, 54, 55, 56, 57, 58, 59, 60, 61, 62, 63] (h0 + 12) H := tS.app3 1 sg_104 sj_125 rfl rfl
    have sj_127 : tS D (mF cI cL cC 0 0 (fun _ => 0) (fun _ => 0) (fun _ => 0) 0 0 0 (fun _ => 0) (fun _ => 0) (fun _ => 0) (fun _ => 0) 0 0 0 0 0 0 0 0 (fun _ => 0)) [51, 52, 53, 54, 55, 56, 57, 58, 59, 60, 61, 62, 63] (h0 + 11) H := tS.app3 1 sg_103 sj_126 rfl rfl
    have sj_128 : tS D (mF cI cL cC 0 0 (fun _ => 0) (fun _ => 0) (fun _ => 0) 0 0 0 (fun _ => 0) (fun _ => 0) (fun _ => 0) (fun _ => 0) 0 0 0 0 0 0 0 0 (fun _ => 0)) [50, 51, 52, 53, 54, 55, 56, 57, 58, 59, 60, 61, 62, 63] (h0 + 10) H := tS.app3 1 sg_102 sj_127 rfl rfl
    have sj_129 : tS D (mF cI cL cC 0 0 (fun _ => 0) (fun _ => 0) (fun _ => 0) 0 0 0 (fun _ => 0) (fun _ => 0) (fun _ => 0) (fun _ => 0) 0 0 0 0 0 0 0 0 (fun _ => 0)) [49, 50, 51, 52, 53, 54, 55, 56, 57, 58, 59, 60, 61, 62, 63] (h0 + 9) H := tS.app3 1 sg_101 sj_128 rfl rfl
    have sj_130 : tS D (mF cI cL cC 0 0 (fun _ => 0) (fun _ => 0) (fun _ => 0) 0 0 0 (fun _ => 0) (fun _ => 0) (fun _ => 0) (fun _ => 0) 0 0 0 0 0 0 0 0 (fun _ => 0)) [48, 49, 50, 51, 52, 53, 54, 55, 56, 57, 58, 59, 60, 61, 62, 63] (h0 + 8) H := tS.app3 1 sg_100 sj_129 rfl rfl
    have sj_131 : tS D (mF cI cL cC 0 0 (fun _ => 0) (fun _ => 0) (fun _ => 0) 0 0 0 (fun _ => 0) (fun _ => 0) (fun _ => 0) (fun _ => 0) 0 0 0 0 0 0 0 0 (fun _ => 0)) [47, 48, 49, 50, 51, 52, 53, 54, 55, 56, 57, 58, 59, 60, 61, 62, 63] (h0 + 7) H := tS.app3 1 sg_99 sj_130 rfl rfl
    have sj_132 : tS D (mF cI cL cC 0 0 (fun _ => 0) (fun _ => 0) (fun _ => 0) 0 0 0 (fun _ => 0) (fun _ => 0) (fun _ => 0) (fun _ => 0) 0 0 0 0 0 0 0 0 (fun _ => 0)) [46, 47, 48, 49, 50, 51, 52, 53, 54, 55, 56, 57, 58, 59, 60, 61, 62, 63] (h0 + 6) H := tS.app3 1 sg_98 sj_131 rfl rfl
    have sj_133 : tS D (mF cI cL cC 0 0 (fun _ => 0) (fun _ => 0) (fun _ => 0) 0 0 0 (fun _ => 0) (fun _ => 0) (fun _ => 0) (fun _ => 0) 0 0 0 0 0 0 0 0 (fun _ => 0)) [45, 46, 47, 48, 49, 50, 51, 52, 53, 54, 55, 56, 57, 58, 59, 60, 61, 62, 63] (h0 + 5) H := tS.app3 1 sg_97 sj_132 rfl rfl
    have sj_134 : tS D (mF cI cL cC 0 0 (fun _ => 0) (fun _ => 0) (fun _ => 0) 0 0 0 (fun _ => 0) (fun _ => 0) (fun _ => 0) (fun _ => 0) 0 0 0 0 0 0 0 0 (fun _ => 0)) [44, 45, 46, 47, 48, 49, 50, 51, 52, 53, 54, 55, 56, 57, 58, 59, 60, 61, 62, 63] (h0 + 4) H := tS.app3 1 sg_96 sj_133 rfl rfl
    have sj_135 : tS D (mF cI cL cC 0 0 (fun _ => 0) (fun _ => 0) (fun _ => 0) 0 0 0 (fun _ => 0) (fun _ => 0) (fun _ => 0) (fun _ => 0) 0 0 0 0 0 0 0 0 (fun _ => 0)) [43, 44, 45, 46, 47, 48, 49, 50, 51, 52, 53, 54, 55, 56, 57, 58, 59, 60, 61, 62, 63] (h0 + 3) H := tS.app3 1 sg_95 sj_134 rfl rfl
    have sj_136 : tS D (mF cI cL cC 0 0 (fun _ => 0) (fun _ => 0) (fun _ => 0) 0 0 0 (fun _ => 0) (fun _ => 0) (fun _ => 0) (fun _ => 0) 0 0 0 0 0 0 0 0 (fun _ => 0)) [42, 43, 44, 45, 46, 47, 48, 49, 50, 51, 52, 53, 54, 55, 56, 57, 58, 59, 60, 61, 62, 63] (h0 + 2) H := tS.app3 1 sg_94 sj_135 rfl rfl
    have sj_137 : tS D (mF cI cL cC 0 0 (fun _ => 0) (fun _ => 0) (fun _ => 0) 0 0 0 (fun _ => 0) (fun _ => 0) (fun _ => 0) (fun _ => 0) 0 0 0 0 0 0 0 0 (fun _ => 0)) [41, 42, 43, 44, 45, 46, 47, 48, 49, 50, 51, 52, 53, 54, 55, 56, 57, 58, 59, 60, 61, 62, 63] (h0 + 1) H := tS.app3 1 sg_93 sj_136 rfl rfl
    have hT : tS D (mF cI cL cC 0 0 (fun _ => 0) (fun _ => 0) (fun _ => 0) 0 0 0 (fun _ => 0) (fun _ => 0) (fun _ => 0) (fun _ => 0) 0 0 0 0 0 0 0 0 (fun _ => 0)) [41, 42, 43, 44, 45, 46, 47, 48, 49, 50, 51, 52, 53, 54, 55, 56, 57, 58, 59, 60, 61, 62, 63] (h0 + 1) H := sj_137
    have hT : tS D (mF cI cL cC 0 0 (fun _ => 0) (fun _ => 0) (fun _ => 0) 0 0 0 (fun _ => 0) (fun _ => 0) (fun _ => 0) (fun _ => 0) 0 0 0 0 0 0 0 0 (fun _ => 0)) [40, 41, 42, 43, 44, 45, 46, 47, 48, 49, 50, 51, 52, 53, 54, 55, 56, 57, 58, 59, 60, 61, 62, 63] h0 H := tS.cons at0 hT (fun t h1 ht => ⟨h0 + 1, 0, h0 + 2, h0 + 3, h0 + 4, h0 + 5, h0 + 6, h0 + 7, h0 + 8, h0 + 9, h0 + 10, h0 + 11, h0 + 12, h0 + 13, h0 + 14, h0 + 15, h0 + 16, h0 + 17, h0 + 18, h0 + 19, h0 + 20, h0 + 21, h0 + 22, 0, h0 + 23, rfl, (ht 0 (by decide)), (ht 1 (by decide)), (ht 2 (by decide)), (ht 3 (by decide)), (ht 4 (by decide)), (ht 5 (by decide)), (ht 6 (by decide)), (ht 7 (by decide)), (ht 8 (by decide)), (ht 9 (by decide)), (ht 10 (by decide)), (ht 11 (by decide)), (ht 12 (by decide)), (ht 13 (by decide)), (ht 14 (by decide)), (ht 15 (by decide)), (ht 16 (by decide)), (ht 17 (by decide)), (ht 18 (by decide)), (ht 19 (by decide)), (ht 20 (by decide)), (ht 21 (by decide)), (ht 22 (by decide))⟩)
    exact W.vret hx hb hr (fun u hu _ => ⟨rfl, by rw [hu]; exact hT, by rw [hu, hz]; rfl, by rw [hu]; exact hS.2.1⟩) hS.2.2 dX10_init_216 hlk
  have loop : ∀ (k h : Nat) (f : Nat → Int32) (H1 : Heap) (locs1 : List Loc) (ls1 : Array Slot), h + k = 192 → va_at D vwCl (h0 + 6, .inl (cI, 384, .inl f)) H1 → H1.size = H.size → (∀ q : Nat, q ≠ h0 + 6 → H1[q]? = H[q]?) → cF h0 s.heap H1 locs1 → lv_has ls1 2 [(1, .int (nI h)), (0, .ref h0)] → WW H1 locs1 (F0 m 187 ls1 []) := by
    intro k
    induction k with
    | zero =>
      intro h f H1 locs1 ls1 hh hat hz1 o1 hS hl
      have hh : h = 192 := by omega
      subst hh
      refine (hWW _ _ _).mpr ?_
      refine lv_iload_n hx hb dX10_init_187 rfl (lv_at hl 0 rfl) ?_
      refine lv_sipush (v := 192) hx hb dX10_init_188 (by decide) ?_
      refine lv_icmp_ge (tgt := 212) hx hb dX10_init_191 (by decide) (fun _ => ?_) (fun q => absurd (by decide) q)
      exact (hWW _ _ _).mp (kx f H1 locs1 ls1 hat hz1 o1 hS (lv_sub hl [1] rfl))
    | succ k ih =>
      intro h f H1 locs1 ls1 hh hat hz1 o1 hS hl
      have hlt : h < 192 := by omega
      refine (hWW _ _ _).mpr ?_
      refine lv_iload_n hx hb dX10_init_187 rfl (lv_at hl 0 rfl) ?_
      refine lv_sipush (v := 192) hx hb dX10_init_188 (by decide) ?_
      refine lv_icmp_ge (tgt := 212) hx hb dX10_init_191 (by decide) (fun q => absurd q (nI_ge (b := 192) hlt (by decide))) (fun _ => ?_)
      refine lv_aload_n hx hb dX10_init_194 rfl (lv_at hl 1 rfl) ?_
      refine va_get (D := D) (ci := 9) (v := .ref (h0 + 6)) (C := RX10) (T := TX10) (N := 36) hx hb hts in10 hown hK (va_one (va_at.keptP (b := h0) (j := 6) 0 at0 o1 rfl)) 0 rfl rfl 9 (by decide) (hts (.fieldLink RX10 25 "RiverModelModel" "weather" "[I") (List.mem_of_getElem? (i := 10) rfl)) (fun _ h9 => h9) rfl dX10_init_195 ?_
      refine lv_iconst (v := 2) hx hb dX10_init_198 (by decide) ?_
      refine lv_iload_n hx hb dX10_init_199 rfl (lv_at hl 0 rfl) ?_
      refine lv_imul hx hb dX10_init_200 ?_
      refine lv_seti (y := nI (2 * h)) (pk_mul 2 h) ?_
      refine lv_iconst (v := 1) hx hb dX10_init_201 (by decide) ?_
      refine lv_iadd hx hb dX10_init_202 ?_
      refine lv_seti (y := nI (2 * h + 1)) (nI_1 _) ?_
      refine lv_bipush (v := 10) hx hb dX10_init_203 (by decide) ?_
      refine nw_iast hx hb hK hat (vp_in_nI (by omega) (by decide)) dX10_init_205 (fun H2 hat2 hz2 o2 => ?_)
      refine lv_iinc (v := nI (h + 1)) (lv' := [(1, .int (nI (h + 1))), (0, .ref h0)]) hx hb dX10_init_206 hl (k := 0) rfl (by rw [nI_succ]; rfl) (by decide) rfl (fun ls hl => ?_)
      refine lv_goto (tgt := 187) hx hb dX10_init_209 (by decide) ?_
      exact (hWW _ _ _).mp (ih (h + 1) _ H2 _ ls (by omega) hat2 (hz2.trans hz1) (fun q hq => (o2 q hq).trans (o1 q hq)) (hS.put hz2 o2 (Nat.le_add_right _ _)) hl)
  exact loop 192 0 _ H _ ls (by omega) at_21 rfl (fun _ _ => rfl) hS hl
