theorem dL_law_1284 : decode cL_law 1284 = .ok (.aload_n 1, 1) := by decide +kernel
theorem dL_law_1285 : decode cL_law 1285 = .ok (.aload_n 0, 1) := by decide +kernel
theorem dL_law_1286 : decode cL_law 1286 = .ok (.iload_n 3, 1) := by decide +kernel
theorem dL_law_1287 : decode cL_law 1287 = .ok (.iconst 1, 1) := by decide +kernel
theorem dL_law_1288 : decode cL_law 1288 = .ok (.iadd, 1) := by decide +kernel
theorem dL_law_1289 : decode cL_law 1289 = .ok (.iaload, 1) := by decide +kernel
theorem dL_law_1290 : decode cL_law 1290 = .ok (.aload_n 0, 1) := by decide +kernel
theorem dL_law_1291 : decode cL_law 1291 = .ok (.iload_n 3, 1) := by decide +kernel
theorem dL_law_1292 : decode cL_law 1292 = .ok (.iconst 2, 1) := by decide +kernel
theorem dL_law_1293 : decode cL_law 1293 = .ok (.iadd, 1) := by decide +kernel
theorem dL_law_1294 : decode cL_law 1294 = .ok (.iaload, 1) := by decide +kernel
theorem dL_law_1295 : decode cL_law 1295 = .ok (.invokevirtual 148, 3) := by decide +kernel
theorem dL_law_1298 : decode cL_law 1298 = .ok (.pop, 1) := by decide +kernel
theorem dL_law_1299 : decode cL_law 1299 = .ok (.aload_n 2, 1) := by decide +kernel
theorem dL_law_1300 : decode cL_law 1300 = .ok (.aload_n 0, 1) := by decide +kernel
theorem dL_law_1301 : decode cL_law 1301 = .ok (.iload_n 3, 1) := by decide +kernel
theorem dL_law_1302 : decode cL_law 1302 = .ok (.iconst 1, 1) := by decide +kernel
theorem dL_law_1303 : decode cL_law 1303 = .ok (.iadd, 1) := by decide +kernel
theorem dL_law_1304 : decode cL_law 1304 = .ok (.iaload, 1) := by decide +kernel
theorem dL_law_1305 : decode cL_law 1305 = .ok (.aload_n 0, 1) := by decide +kernel
theorem dL_law_1306 : decode cL_law 1306 = .ok (.iload_n 3, 1) := by decide +kernel
theorem dL_law_1307 : decode cL_law 1307 = .ok (.iconst 2, 1) := by decide +kernel
theorem dL_law_1308 : decode cL_law 1308 = .ok (.iadd, 1) := by decide +kernel
theorem dL_law_1309 : decode cL_law 1309 = .ok (.iaload, 1) := by decide +kernel
theorem dL_law_1310 : decode cL_law 1310 = .ok (.invokevirtual 151, 3) := by decide +kernel
theorem dL_law_1313 : decode cL_law 1313 = .ok (.pop, 1) := by decide +kernel
theorem dL_law_1314 : decode cL_law 1314 = .ok (.goto 95, 3) := by decide +kernel
set_option maxRecDepth 20000 in
theorem gu_L_X9_startB : GoodIn wsL_law (wsV RL 148 RX9 yX9_startB uX9_startB) := goodIn_r _ [996, 997, 998, 2, 999, 530, 223, 2, 680, 168, 169, 531, 532, 533, 31, 224, 170, 534, 23, 20, 535, 251, 252, 19, 253, 67, 1064, 1065, 1066, 1067, 1068, 1069, 1070, 1071, 1072, 1073, 1074, 1075, 1076, 1077, 1078, 1079, 1080, 1081, 1122, 1123, 1124, 1125, 1126, 1127] rfl (by decide +kernel)
set_option maxRecDepth 20000 in
theorem gu_L_X10_startB : GoodIn wsL_law (wsV RL 151 RX10 yX10_startB uX10_startB) := goodIn_r _ [1000, 1001, 1002, 5, 1003, 544, 182, 183, 5, 316, 370, 392, 393, 394, 156, 184, 395, 381, 382, 383, 384, 365, 137, 138, 1082, 1083, 1084, 1085, 1086, 1087, 1088, 1089, 1090, 1091, 1092, 1093, 1094, 1095, 1096, 1097, 1098, 1099, 1100, 1101, 1102, 1103, 1104, 1105, 1106, 1107, 1108, 1109, 1110, 1111, 1112, 1113, 1114, 1115, 1116, 1117] rfl (by decide +kernel)
set_option maxHeartbeats 4000000 in
set_option maxRecDepth 100000 in
theorem lc_30 {p : Program} {l : Launch} {e : Env} {s : State} {m : MethodId} {below : List Frame} {meth : Method} {c : Code} {cells slots : Nat} {Q : State → Prop} {b h0 L : Nat} {xs : Nat → Int32} {yi : Int32} {D : va_G} {cI cL cC : ClassId} {tx tm : Nat → Nat} {H : Heap} {locs : List Loc} {ls : Array Slot} {gC : Int32} {gP : Int32} {gT : Nat → Int32} {gR : Nat → Int32} {mm : Int32} {ms : Int32} {mg : Int32} {mL : Nat → Int32} {mQ : Nat → Int32} {mZ : Nat → Int32} {dm : Int32} {ds : Int32} {dg : Int32} {dL : Nat → Int32} {dQ : Nat → Int32} {dZ : Nat → Int32} {om : Int32} {os : Int32} {og : Int32} {oL : Nat → Int32} {oQ : Nat → Int32} {oZ : Nat → Int32} {gB : Int32} {gO : Int32} {xk : Int32} {gE : Int32} {gV : Nat → Int32} {gU : Nat → Int32} {gN : Nat → Int32} {G : Nat} {gW : Nat → Int32} {gA : Nat → Int32} {gI : Int32} {gS : Int32} {gM : Int32} {K : Nat → Int32} {F : Nat → Int32} {S : Nat → Int32} {N : Nat → Int32} {gH : Int} {gJ : Int} {ge : Int32} {gk : Int32} {gf : Int32} {gs : Int32} {gg : Int32} {gr : Int32} {RN : Nat → Int32} {gb : Int32} {rV : Nat → Int32} {rN : Nat → Int32} (hx : p.tables.exec = Jvm.exec) (hb : c.code = cL_law) (hml : c.maxLocals = 4) (hown : s.vm.findClass RL = some m.cls) (hts : ∀ w ∈ wsL_law, w.before #[Value.ref b] s = true) (hE : EV D cI cL cC s) (hbl : b < h0) (hT0 : cT h0 tm tx) (hG : tG D (hF cI cL cC gC gP gT gR mm ms mg mL mQ mZ dm ds dg dL dQ dZ om os og oL oQ oZ gB gO xk gE gV gU gN G gW gA) tx H) (hM : tG D (mF cI cL cC gC gE gW gA gT gI gS gM K F S N gH gJ ge gk gf gs gg gr RN gb rV rN) tm H) (kt2 : tm (h0 + 92) = 40) (hm00 : ∀ q : Nat, q < h0 → tm q = 0) (uqm : ∀ b c : Nat, tm b = tm c → tm b ≠ 0 → b = c) (hC0 : 0 ≤ gC.toInt) (hC4 : gC.toInt ≤ 400) (hP0 : 0 ≤ gP.toInt) (hP4 : gP.toInt ≤ 400) (hTg : gBd 400 0 255 gT) (mg0 : 0 ≤ mg.toInt) (mg4 : mg.toInt ≤ 4) (dg0 : 0 ≤ dg.toInt) (dg4 : dg.toInt ≤ 4) (og0 : 0 ≤ og.toInt) (og4 : og.toInt ≤ 4) (xk0 : 0 ≤ xk.toInt) (xk3 : xk.toInt ≤ 3) (hI0 : 0 ≤ gI.toInt) (hI4 : gI.toInt ≤ 40) (hH0 : 0 ≤ gH) (hH9 : gH ≤ 96) (hm0 : 0 ≤ gM.toInt) (hm3 : gM.toInt ≤ 3) (hO0 : okM K F S N 0 gI.toInt) (hW : swM gS K F S N gI.toInt) (hoR : othR gb gS gI K F) (hrB : relB gB gb mm gI mL mQ K F) (hoC : othC gB gO mm om mL mQ oL oQ) (heV : eqV gV rV gN rN) (hGb : (G : Int) ≤ 3072 * yi.toInt) (hy0 : 0 ≤ yi.toInt) (hy8 : yi.toInt + 8 ≤ (L : Int)) (hL : L ≤ 4096) (hS : cF h0 s.heap H locs) (hX : va_X b L xs s H) (hl : lv_has ls 4 [(3, .int yi), (2, .ref (h0 + 92)), (1, .ref h0), (0, .ref b)]) (hcl : cells ≤ 600000) (hsl : slots ≤ 7302250) (kx : ∀ (H1 : Heap) (locs1 : List Loc) (tx' : Nat → Nat) (gC' : Int32) (gP' : Int32) (gT' : Nat → Int32) (gR' : Nat → Int32) (mm' : Int32) (ms' : Int32) (mg' : Int32) (mL' : Nat → Int32) (mQ' : Nat → Int32) (mZ' : Nat → Int32) (dm' : Int32) (ds' : Int32) (dg' : Int32) (dL' : Nat → Int32) (dQ' : Nat → Int32) (dZ' : Nat → Int32) (om' : Int32) (os' : Int32) (og' : Int32) (oL' : Nat → Int32) (oQ' : Nat → Int32) (oZ' : Nat → Int32) (gB' : Int32) (gO' : Int32) (xk' : Int32) (gE' : Int32) (gV' : Nat → Int32) (gU' : Nat → Int32) (gN' : Nat → Int32) (G' : Nat) (gW' : Nat → Int32) (gA' : Nat → Int32) (gI' : Int32) (gS' : Int32) (gM' : Int32) (K' : Nat → Int32) (F' : Nat → Int32) (S' : Nat → Int32) (N' : Nat → Int32) (gH' : Int) (gJ' : Int) (ge' : Int32) (gk' : Int32) (gf' : Int32) (gs' : Int32) (gg' : Int32) (gr' : Int32) (RN' : Nat → Int32) (gb' : Int32) (rV' : Nat → Int32) (rN' : Nat → Int32), cT h0 tm tx' → tG D (hF cI cL cC gC' gP' gT' gR' mm' ms' mg' mL' mQ' mZ' dm' ds' dg' dL' dQ' dZ' om' os' og' oL' oQ' oZ' gB' gO' xk' gE' gV' gU' gN' G' gW' gA') tx' H1 → tG D (mF cI cL cC gC' gE' gW' gA' gT' gI' gS' gM' K' F' S' N' gH' gJ' ge' gk' gf' gs' gg' gr' RN' gb' rV' rN') tm H1 → (0 ≤ gC'.toInt) → (gC'.toInt ≤ 400) → (0 ≤ gP'.toInt) → (gP'.toInt ≤ 400) → (gBd 400 0 255 gT') → (0 ≤ mg'.toInt) → (mg'.toInt ≤ 4) → (0 ≤ dg'.toInt) → (dg'.toInt ≤ 4) → (0 ≤ og'.toInt) → (og'.toInt ≤ 4) → (0 ≤ xk'.toInt) → (xk'.toInt ≤ 3) → (0 ≤ gI'.toInt) → (gI'.toInt ≤ 40) → (0 ≤ gH') → (gH' ≤ 96) → (0 ≤ gM'.toInt) → (gM'.toInt ≤ 3) → (okM K' F' S' N' 0 gI'.toInt) → (swM gS' K' F' S' N' gI'.toInt) → (othR gb' gS' gI' K' F') → (relB gB' gb' mm' gI' mL' mQ' K' F') → (othC gB' gO' mm' om' mL' mQ' oL' oQ') → (eqV gV' rV' gN' rN') → (G' : Int) ≤ 3072 * yi.toInt + 24576 → cF h0 s.heap H1 locs1 → va_X b L xs s H1 → W p l e room_1 s m #[Value.ref b] below meth c H1 locs1 cells slots Q (F0 m 1409 ls [])) : W p l e room_1 s m #[Value.ref b] below meth c H locs cells slots Q (F0 m 1284 ls []) := by
  refine lv_aload_n hx hb dL_law_1284 rfl (lv_at hl 2 rfl) ?_
  refine lw_argC hx hb hX hl hy0 hy8 hL 1 (by decide) (by decide) dL_law_1285 dL_law_1286 dL_law_1287 dL_law_1288 dL_law_1289 ?_
  refine lv_pc (pc2 := 1290) rfl ?_
  refine lw_argC hx hb hX hl hy0 hy8 hL 2 (by decide) (by decide) dL_law_1290 dL_law_1291 dL_law_1292 dL_law_1293 dL_law_1294 ?_
  refine lv_pc (pc2 := 1295) rfl ?_
  obtain ⟨_, at_1⟩ := rcvH hG hT0.1
  have hV_5 : tG D (gF cI cL cC gC gE G gW gA) (fun q => cwA (tx q)) H := tG.vw hG (cwA_vw ⟨by omega, by omega⟩ ⟨by omega, by omega, by omega, by omega⟩ ⟨by omega, by omega⟩ ⟨by omega, by omega⟩ ⟨by omega, by omega⟩) rfl
  refine lw_calli (W.runV (As := [.int (xs (yi.toInt + 1).toNat), .int (xs (yi.toInt + 2).toNat)]) (rest := []) ⟨hx, hb, hml, hown, hts⟩ (s_X9_startB l D (fun q => cwA (tx q)) cI cL cC gC gE G gW gA h0 (xs (yi.toInt + 1).toNat) (xs (yi.toInt + 2).toNat) (by show cwA (tx h0) = 1; rw [hT0.1]; rfl)) (cwV 2 hts gu_L_X9_startB rfl rfl rfl (by decide +kernel) ⟨Nat.le_of_ble_eq_true rfl, Nat.le_of_ble_eq_true rfl⟩) (tP_V hV_5 hE at_1 rfl) rfl rfl hl.1 rfl (lv_room (Nat.le_of_ble_eq_true rfl)) dL_law_1295 ⟨hcl, hsl⟩) hS rfl (fun q h => by show cwA (tx q) = 0; rw [hT0.2.1 q h]; rfl) (fun r_2 H locs hp_3 hV_6 hS o_4 => ?_)
  replace hX := hX.kept (o_4 b (by show wrSt (cwA (tx b)) = false; rw [hT0.2.1 b hbl]; rfl))
  replace hM := tG.keptW hM o_4 (fun q h => by show wrSt (cwA (tx q)) = false; rw [hT0.2.2.1 q h]; rfl)
  replace hG : tG D (hF cI cL cC gC gP gT gR mm ms mg mL mQ mZ dm ds dg dL dQ dZ om os og oL oQ oZ gB gO xk gE gV gU gN G gW gA) tx H := tG.unvw hG hV_6 o_4 rfl (cwA_wrSt_b (G := G)) (cwA_wrSt_o (by omega))
  clear hV_5 hV_6
  refine lv_pop hx hb dL_law_1298 rfl ?_
  refine lv_aload_n hx hb dL_law_1299 rfl (lv_at hl 1 rfl) ?_
  refine lw_argC hx hb hX hl hy0 hy8 hL 1 (by decide) (by decide) dL_law_1300 dL_law_1301 dL_law_1302 dL_law_1303 dL_law_1304 ?_
  refine lv_pc (pc2 := 1305) rfl ?_
  refine lv_pc (pc2 := 1305) rfl ?_
  refine lw_argC hx hb hX hl hy0 hy8 hL 2 (by decide) (by decide) dL_law_1305 dL_law_1306 dL_law_1307 dL_law_1308 dL_law_1309 ?_
  refine lv_pc (pc2 := 1310) rfl ?_
  obtain ⟨_, at_7⟩ := rcv40 hM kt2
  refine lw_calli (W.runV (As := [.int (xs (yi.toInt + 1).toNat), .int (xs (yi.toInt + 2).toNat)]) (rest := []) ⟨hx, hb, hml, hown, hts⟩ (m_X10_startB l D tm cI cL cC gC gE gW gA gT gI gS gM K F S N gH gJ ge gk gf gs gg gr RN gb rV rN (h0 + 92) (xs (yi.toInt + 1).toNat) (xs (yi.toInt + 2).toNat) uqm hC0 hC4 hI0 hI4 hH0 hH9 hm0 hm3 hO0 hW hoR kt2) (cwV 2 hts gu_L_X10_startB rfl rfl rfl (by decide +kernel) ⟨Nat.le_of_ble_eq_true rfl, Nat.le_of_ble_eq_true rfl⟩) (tP_V hM hE at_7 rfl) rfl rfl hl.1 rfl (lv_room (Nat.le_of_ble_eq_true rfl)) dL_law_1310 ⟨hcl, hsl⟩) hS rfl hm00 (fun r_8 H locs hp_9 hM hS o_10 => ?_)
  replace hX := hX.kept (o_10 b (by rw [hm00 b hbl]; rfl))
  replace hG := tG.keptW hG o_10 (fun q h => by rw [hT0.2.2.2.1 q h]; rfl)
  refine lv_pop hx hb dL_law_1313 rfl ?_
  refine lv_goto (tgt := 1409) hx hb dL_law_1314 (by decide) ?_
  exact kx H locs tx _ _ _ _ _ _ _ _ _ _ _ _ _ _ _ _ _ _ _ _ _ _ _ _ _ _ _ _ _ _ _ _ _ _ _ _ _ _ _ _ _ _ _ _ _ _ _ _ _ _ _ hT0 hG hM hC0 hC4 hP0 hP4 hTg mg0 mg4 dg0 dg4 og0 og4 xk0 xk3 hI0 hI4 hH0 hH9 hm0 hm3 hO0 hW hoR (relB.step hrB smC.rf smR.rf) hoC heV (by omega) hS hX
