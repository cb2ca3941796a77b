theorem dL_law_1386 : decode cL_law 1386 = .ok (.aload_n 1, 1) := by decide +kernel
theorem dL_law_1387 : decode cL_law 1387 = .ok (.aload_n 0, 1) := by decide +kernel
theorem dL_law_1388 : decode cL_law 1388 = .ok (.iload_n 3, 1) := by decide +kernel
theorem dL_law_1389 : decode cL_law 1389 = .ok (.iconst 1, 1) := by decide +kernel
theorem dL_law_1390 : decode cL_law 1390 = .ok (.iadd, 1) := by decide +kernel
theorem dL_law_1391 : decode cL_law 1391 = .ok (.iaload, 1) := by decide +kernel
theorem dL_law_1392 : decode cL_law 1392 = .ok (.invokevirtual 164, 3) := by decide +kernel
theorem dL_law_1395 : decode cL_law 1395 = .ok (.pop, 1) := by decide +kernel
theorem dL_law_1396 : decode cL_law 1396 = .ok (.aload_n 2, 1) := by decide +kernel
theorem dL_law_1397 : decode cL_law 1397 = .ok (.aload_n 0, 1) := by decide +kernel
theorem dL_law_1398 : decode cL_law 1398 = .ok (.iload_n 3, 1) := by decide +kernel
theorem dL_law_1399 : decode cL_law 1399 = .ok (.iconst 1, 1) := by decide +kernel
theorem dL_law_1400 : decode cL_law 1400 = .ok (.iadd, 1) := by decide +kernel
theorem dL_law_1401 : decode cL_law 1401 = .ok (.iaload, 1) := by decide +kernel
theorem dL_law_1402 : decode cL_law 1402 = .ok (.invokevirtual 167, 3) := by decide +kernel
theorem dL_law_1405 : decode cL_law 1405 = .ok (.pop, 1) := by decide +kernel
theorem dL_law_1406 : decode cL_law 1406 = .ok (.goto 3, 3) := by decide +kernel
set_option maxRecDepth 20000 in
theorem gu_L_X9_count : GoodIn wsL_law (wsV RL 164 RX9 yX9_count uX9_count) := goodIn_r _ [1044, 1045, 1046, 2, 1047, 16, 167, 23, 20, 330, 329, 570, 35, 428, 47, 1048, 1049, 1050, 46, 43, 1052, 1053, 1054, 42, 1056, 1057, 1058, 39, 1051, 711, 712, 713, 714, 110, 1055, 637, 628, 629, 630, 98, 1059, 100, 1064, 1065, 1066, 1067, 1068, 1069, 1070, 1071, 1072, 1073, 1074, 1075, 1076, 1077, 1078, 1079, 1080, 1081, 1118, 1119, 1120, 1121, 1122, 1123, 1124, 1125, 1126, 1127, 1130, 1131, 1132, 1133, 1134, 1135, 1136, 1137, 1142, 1143, 1144, 1145, 1146, 1138, 1139, 1140, 1141] rfl (by decide +kernel)
set_option maxRecDepth 20000 in
theorem gu_L_X10_count : GoodIn wsL_law (wsV RL 167 RX10 yX10_count uX10_count) := goodIn_r _ [1060, 1061, 1062, 5, 1063, 180, 370, 365, 576, 577, 578, 5, 142, 152, 372, 145, 147, 579, 137, 1082, 1083, 1084, 1085, 1086, 1087, 1088, 1089, 1090, 1091, 1092, 1093, 1094, 1095, 1096, 1097, 1098, 1099, 1100, 1101, 1102, 1103, 1104, 1105, 1106, 1107, 1108, 1109, 1110, 1111, 1112, 1113, 1114, 1115, 1116, 1117] rfl (by decide +kernel)
set_option maxHeartbeats 4000000 in
set_option maxRecDepth 100000 in
theorem lc_34 {p : Program} {l : Launch} {e : Env} {s : State} {m : MethodId} {below : List Frame} {meth : Method} {c : Code} {cells slots : Nat} {Q : State → Prop} {b h0 L : Nat} {xs : Nat → Int32} {yi : Int32} {D : va_G} {cI cL cC : ClassId} {tx tm : Nat → Nat} {H : Heap} {locs : List Loc} {ls : Array Slot} {gC : Int32} {gE : Int32} {G : Nat} {gW : Nat → Int32} {gA : Nat → Int32} {gT : Nat → Int32} {gI : Int32} {gS : Int32} {gM : Int32} {K : Nat → Int32} {F : Nat → Int32} {S : Nat → Int32} {N : Nat → Int32} {gH : Int} {gJ : Int} {ge : Int32} {gk : Int32} {gf : Int32} {gs : Int32} {gg : Int32} {gr : Int32} {RN : Nat → Int32} (hx : p.tables.exec = Jvm.exec) (hb : c.code = cL_law) (hml : c.maxLocals = 4) (hown : s.vm.findClass RL = some m.cls) (hts : ∀ w ∈ wsL_law, w.before #[Value.ref b] s = true) (hE : EV D cI cL cC s) (hbl : b < h0) (hG : tG D (gF cI cL cC gC gE G gW gA) tx H) (hM : tG D (mF cI cL cC gC gE gW gA gT gI gS gM K F S N gH gJ ge gk gf gs gg gr RN) tm H) (kt : tx h0 = 1) (kt2 : tm (h0 + 92) = 40) (hx0 : ∀ q : Nat, q < h0 → tx q = 0) (hm00 : ∀ q : Nat, q < h0 → tm q = 0) (dj : ∀ q : Nat, tm q ≠ 0 → tx q = 0) (dj2 : ∀ q : Nat, tx q ≠ 0 → tm q = 0) (uq_gC : ∀ b c : Nat, tx b = 2 → tx c = 2 → b = c) (uq_gE : ∀ b c : Nat, tx b = 6 → tx c = 6 → b = c) (uq_gW : ∀ b c : Nat, tx b = 29 → tx c = 29 → b = c) (uq_gA : ∀ b c : Nat, tx b = 31 → tx c = 31 → b = c) (uqm : ∀ b c : Nat, tm b = tm c → tm b ≠ 0 → b = c) (hC0 : 0 ≤ gC.toInt) (hC4 : gC.toInt ≤ 400) (hI0 : 0 ≤ gI.toInt) (hI4 : gI.toInt ≤ 40) (hH0 : 0 ≤ gH) (hH9 : gH ≤ 96) (hm0 : 0 ≤ gM.toInt) (hm3 : gM.toInt ≤ 3) (hO0 : okM K F S N 0 gI.toInt) (hW : swM gS K F S N gI.toInt) (hGb : (G : Int) ≤ 3072 * yi.toInt) (hy0 : 0 ≤ yi.toInt) (hy8 : yi.toInt + 8 ≤ (L : Int)) (hL : L ≤ 4096) (hS : cF h0 s.heap H locs) (hX : va_X b L xs s H) (hl : lv_has ls 4 [(3, .int yi), (2, .ref (h0 + 92)), (1, .ref h0), (0, .ref b)]) (hcl : cells ≤ 600000) (hsl : slots ≤ 7302250) (kx : ∀ (H1 : Heap) (locs1 : List Loc) (gC' : Int32) (gE' : Int32) (G' : Nat) (gW' : Nat → Int32) (gA' : Nat → Int32) (gT' : Nat → Int32) (gI' : Int32) (gS' : Int32) (gM' : Int32) (K' : Nat → Int32) (F' : Nat → Int32) (S' : Nat → Int32) (N' : Nat → Int32) (gH' : Int) (gJ' : Int) (ge' : Int32) (gk' : Int32) (gf' : Int32) (gs' : Int32) (gg' : Int32) (gr' : Int32) (RN' : Nat → Int32), tG D (gF cI cL cC gC' gE' G' gW' gA') tx H1 → tG D (mF cI cL cC gC' gE' gW' gA' gT' gI' gS' gM' K' F' S' N' gH' gJ' ge' gk' gf' gs' gg' gr' RN') tm H1 → 0 ≤ gC'.toInt → gC'.toInt ≤ 400 → 0 ≤ gI'.toInt → gI'.toInt ≤ 40 → 0 ≤ gH' → gH' ≤ 96 → 0 ≤ gM'.toInt → gM'.toInt ≤ 3 → okM K' F' S' N' 0 gI'.toInt → swM gS' K' F' S' N' gI'.toInt → (G' : Int) ≤ 3072 * yi.toInt + 24576 → cF h0 s.heap H1 locs1 → va_X b L xs s H1 → W p l e room_1 s m #[Value.ref b] below meth c H1 locs1 cells slots Q (F0 m 1409 ls [])) : W p l e room_1 s m #[Value.ref b] below meth c H locs cells slots Q (F0 m 1386 ls []) := by
  refine lv_aload_n hx hb dL_law_1386 rfl (lv_at hl 2 rfl) ?_
  refine lw_argC hx hb hX hl hy0 hy8 hL 1 (by decide) (by decide) dL_law_1387 dL_law_1388 dL_law_1389 dL_law_1390 dL_law_1391 ?_
  refine lv_pc (pc2 := 1392) rfl ?_
  obtain ⟨_, at_1⟩ := rcv1 hG kt
  refine lw_calli (W.runV (As := [.int (xs (yi.toInt + 1).toNat)]) (rest := []) ⟨hx, hb, hml, hown, hts⟩ (s_X9_count l D tx cI cL cC gC gE G gW gA h0 (xs (yi.toInt + 1).toNat) kt) (cwV 1 hts gu_L_X9_count rfl rfl rfl (by decide +kernel) ⟨Nat.le_of_ble_eq_true rfl, Nat.le_of_ble_eq_true rfl⟩) (tP_V hG hE at_1 rfl) rfl rfl hl.1 rfl (lv_room (Nat.le_of_ble_eq_true rfl)) dL_law_1392 ⟨hcl, hsl⟩) hS rfl hx0 (fun r_2 H locs hp_3 hG hS o_4 => ?_)
  replace hX := hX.kept (o_4 b (by rw [hx0 b hbl]; rfl))
  replace hM := tG.keptW hM o_4 (fun q h => by rw [dj q h]; rfl)
  refine lv_pop hx hb dL_law_1395 rfl ?_
  refine lv_aload_n hx hb dL_law_1396 rfl (lv_at hl 1 rfl) ?_
  refine lw_argC hx hb hX hl hy0 hy8 hL 1 (by decide) (by decide) dL_law_1397 dL_law_1398 dL_law_1399 dL_law_1400 dL_law_1401 ?_
  refine lv_pc (pc2 := 1402) rfl ?_
  obtain ⟨_, at_5⟩ := rcv40 hM kt2
  refine lw_calli (W.runV (As := [.int (xs (yi.toInt + 1).toNat)]) (rest := []) ⟨hx, hb, hml, hown, hts⟩ (m_X10_count l D tm cI cL cC gC gE gW gA gT gI gS gM K F S N gH gJ ge gk gf gs gg gr RN (h0 + 92) (xs (yi.toInt + 1).toNat) uqm hC0 hC4 hI0 hI4 hH0 hH9 hm0 hm3 hO0 hW kt2) (cwV 1 hts gu_L_X10_count rfl rfl rfl (by decide +kernel) ⟨Nat.le_of_ble_eq_true rfl, Nat.le_of_ble_eq_true rfl⟩) (tP_V hM hE at_5 rfl) rfl rfl hl.1 rfl (lv_room (Nat.le_of_ble_eq_true rfl)) dL_law_1402 ⟨hcl, hsl⟩) hS rfl hm00 (fun r_6 H locs hp_7 hM hS o_8 => ?_)
  replace hX := hX.kept (o_8 b (by rw [hm00 b hbl]; rfl))
  replace hG := tG.keptW hG o_8 (fun q h => by rw [dj2 q h]; rfl)
  refine lv_pc (pc2 := 1405) rfl ?_
  refine lv_pop hx hb dL_law_1405 rfl ?_
  refine lv_goto (tgt := 1409) hx hb dL_law_1406 (by decide) ?_
  exact kx H locs _ _ _ _ _ _ _ _ _ _ _ _ _ _ _ _ _ _ _ _ _ _ hG hM hC0 hC4 hI0 hI4 hH0 hH9 hm0 hm3 hO0 hW (by omega) hS hX
