theorem dL_law_323 : decode cL_law 323 = .ok (.aload_n 1, 1) := by decide +kernel
theorem dL_law_324 : decode cL_law 324 = .ok (.aload_n 0, 1) := by decide +kernel
theorem dL_law_325 : decode cL_law 325 = .ok (.iload_n 3, 1) := by decide +kernel
theorem dL_law_326 : decode cL_law 326 = .ok (.iconst 1, 1) := by decide +kernel
theorem dL_law_327 : decode cL_law 327 = .ok (.iadd, 1) := by decide +kernel
theorem dL_law_328 : decode cL_law 328 = .ok (.iaload, 1) := by decide +kernel
theorem dL_law_329 : decode cL_law 329 = .ok (.aload_n 0, 1) := by decide +kernel
theorem dL_law_330 : decode cL_law 330 = .ok (.iload_n 3, 1) := by decide +kernel
theorem dL_law_331 : decode cL_law 331 = .ok (.iconst 2, 1) := by decide +kernel
theorem dL_law_332 : decode cL_law 332 = .ok (.iadd, 1) := by decide +kernel
theorem dL_law_333 : decode cL_law 333 = .ok (.iaload, 1) := by decide +kernel
theorem dL_law_334 : decode cL_law 334 = .ok (.aload_n 0, 1) := by decide +kernel
theorem dL_law_335 : decode cL_law 335 = .ok (.iload_n 3, 1) := by decide +kernel
theorem dL_law_336 : decode cL_law 336 = .ok (.iconst 3, 1) := by decide +kernel
theorem dL_law_337 : decode cL_law 337 = .ok (.iadd, 1) := by decide +kernel
theorem dL_law_338 : decode cL_law 338 = .ok (.iaload, 1) := by decide +kernel
theorem dL_law_339 : decode cL_law 339 = .ok (.aload_n 0, 1) := by decide +kernel
theorem dL_law_340 : decode cL_law 340 = .ok (.iload_n 3, 1) := by decide +kernel
theorem dL_law_341 : decode cL_law 341 = .ok (.iconst 4, 1) := by decide +kernel
theorem dL_law_342 : decode cL_law 342 = .ok (.iadd, 1) := by decide +kernel
theorem dL_law_343 : decode cL_law 343 = .ok (.iaload, 1) := by decide +kernel
theorem dL_law_344 : decode cL_law 344 = .ok (.invokevirtual 38, 3) := by decide +kernel
theorem dL_law_347 : decode cL_law 347 = .ok (.pop, 1) := by decide +kernel
theorem dL_law_348 : decode cL_law 348 = .ok (.aload_n 2, 1) := by decide +kernel
theorem dL_law_349 : decode cL_law 349 = .ok (.aload_n 0, 1) := by decide +kernel
theorem dL_law_350 : decode cL_law 350 = .ok (.iload_n 3, 1) := by decide +kernel
theorem dL_law_351 : decode cL_law 351 = .ok (.iconst 1, 1) := by decide +kernel
theorem dL_law_352 : decode cL_law 352 = .ok (.iadd, 1) := by decide +kernel
theorem dL_law_353 : decode cL_law 353 = .ok (.iaload, 1) := by decide +kernel
theorem dL_law_354 : decode cL_law 354 = .ok (.aload_n 0, 1) := by decide +kernel
theorem dL_law_355 : decode cL_law 355 = .ok (.iload_n 3, 1) := by decide +kernel
theorem dL_law_356 : decode cL_law 356 = .ok (.iconst 2, 1) := by decide +kernel
theorem dL_law_357 : decode cL_law 357 = .ok (.iadd, 1) := by decide +kernel
theorem dL_law_358 : decode cL_law 358 = .ok (.iaload, 1) := by decide +kernel
theorem dL_law_359 : decode cL_law 359 = .ok (.aload_n 0, 1) := by decide +kernel
theorem dL_law_360 : decode cL_law 360 = .ok (.iload_n 3, 1) := by decide +kernel
theorem dL_law_361 : decode cL_law 361 = .ok (.iconst 3, 1) := by decide +kernel
theorem dL_law_362 : decode cL_law 362 = .ok (.iadd, 1) := by decide +kernel
theorem dL_law_363 : decode cL_law 363 = .ok (.iaload, 1) := by decide +kernel
theorem dL_law_364 : decode cL_law 364 = .ok (.aload_n 0, 1) := by decide +kernel
theorem dL_law_365 : decode cL_law 365 = .ok (.iload_n 3, 1) := by decide +kernel
theorem dL_law_366 : decode cL_law 366 = .ok (.iconst 4, 1) := by decide +kernel
theorem dL_law_367 : decode cL_law 367 = .ok (.iadd, 1) := by decide +kernel
theorem dL_law_368 : decode cL_law 368 = .ok (.iaload, 1) := by decide +kernel
theorem dL_law_369 : decode cL_law 369 = .ok (.invokevirtual 42, 3) := by decide +kernel
theorem dL_law_372 : decode cL_law 372 = .ok (.pop, 1) := by decide +kernel
theorem dL_law_373 : decode cL_law 373 = .ok (.goto 1036, 3) := by decide +kernel
set_option maxRecDepth 20000 in
theorem gu_L_X9_weather : GoodIn wsL_law (wsV RL 38 RX9 yX9_weather uX9_weather) := goodIn_r _ [411, 412, 413, 2, 414, 168, 169, 2, 29, 415, 416, 28, 170, 1064, 1065, 1066, 1067, 1068, 1069, 1070, 1071, 1072, 1073, 1074, 1075, 1076, 1077, 1078, 1079, 1080, 1081, 1128, 1129] rfl (by decide +kernel)
set_option maxRecDepth 20000 in
theorem gu_L_X10_weather : GoodIn wsL_law (wsV RL 42 RX10 yX10_weather uX10_weather) := goodIn_r _ [417, 418, 419, 5, 420, 182, 183, 5, 421, 318, 422, 423, 141, 184, 1082, 1083, 1084, 1085, 1086, 1087, 1088, 1089, 1090, 1091, 1092, 1093, 1094, 1095, 1096, 1097, 1098, 1099, 1100, 1101, 1102, 1103, 1104, 1105, 1106, 1107, 1108, 1109, 1110, 1111, 1112, 1113, 1114, 1115, 1116, 1117] rfl (by decide +kernel)
set_option maxHeartbeats 4000000 in
set_option maxRecDepth 100000 in
theorem lc_5 {p : Program} {l : Launch} {e : Env} {s : State} {m : MethodId} {below : List Frame} {meth : Method} {c : Code} {cells slots : Nat} {Q : State → Prop} {b h0 L : Nat} {xs : Nat → Int32} {yi : Int32} {D : va_G} {cI cL cC : ClassId} {tx tm : Nat → Nat} {H : Heap} {locs : List Loc} {ls : Array Slot} {gC : Int32} {gP : Int32} {gT : Nat → Int32} {gR : Nat → Int32} {mm : Int32} {ms : Int32} {mg : Int32} {mL : Nat → Int32} {mQ : Nat → Int32} {mZ : Nat → Int32} {dm : Int32} {ds : Int32} {dg : Int32} {dL : Nat → Int32} {dQ : Nat → Int32} {dZ : Nat → Int32} {om : Int32} {os : Int32} {og : Int32} {oL : Nat → Int32} {oQ : Nat → Int32} {oZ : Nat → Int32} {gB : Int32} {gO : Int32} {xk : Int32} {gE : Int32} {gV : Nat → Int32} {gU : Nat → Int32} {gN : Nat → Int32} {G : Nat} {gW : Nat → Int32} {gA : Nat → Int32} {gI : Int32} {gS : Int32} {gM : Int32} {K : Nat → Int32} {F : Nat → Int32} {S : Nat → Int32} {N : Nat → Int32} {gH : Int} {gJ : Int} {ge : Int32} {gk : Int32} {gf : Int32} {gs : Int32} {gg : Int32} {gr : Int32} {RN : Nat → Int32} {gb : Int32} {rV : Nat → Int32} {rN : Nat → Int32} (hx : p.tables.exec = Jvm.exec) (hb : c.code = cL_law) (hml : c.maxLocals = 4) (hown : s.vm.findClass RL = some m.cls) (hts : ∀ w ∈ wsL_law, w.before #[Value.ref b] s = true) (hE : EV D cI cL cC s) (hbl : b < h0) (hT0 : cT h0 tm tx) (hG : tG D (hF cI cL cC gC gP gT gR mm ms mg mL mQ mZ dm ds dg dL dQ dZ om os og oL oQ oZ gB gO xk gE gV gU gN G gW gA) tx H) (hM : tG D (mF cI cL cC gC gE gW gA gT gI gS gM K F S N gH gJ ge gk gf gs gg gr RN gb rV rN) tm H) (kt2 : tm (h0 + 92) = 40) (hm00 : ∀ q : Nat, q < h0 → tm q = 0) (uqm : ∀ b c : Nat, tm b = tm c → tm b ≠ 0 → b = c) (hC0 : 0 ≤ gC.toInt) (hC4 : gC.toInt ≤ 400) (hP0 : 0 ≤ gP.toInt) (hP4 : gP.toInt ≤ 400) (hTg : gBd 400 0 255 gT) (mg0 : 0 ≤ mg.toInt) (mg4 : mg.toInt ≤ 4) (dg0 : 0 ≤ dg.toInt) (dg4 : dg.toInt ≤ 4) (og0 : 0 ≤ og.toInt) (og4 : og.toInt ≤ 4) (xk0 : 0 ≤ xk.toInt) (xk3 : xk.toInt ≤ 3) (hI0 : 0 ≤ gI.toInt) (hI4 : gI.toInt ≤ 40) (hH0 : 0 ≤ gH) (hH9 : gH ≤ 96) (hm0 : 0 ≤ gM.toInt) (hm3 : gM.toInt ≤ 3) (hO0 : okM K F S N 0 gI.toInt) (hW : swM gS K F S N gI.toInt) (hoR : othR gb gS gI K F) (hrB : relB gB gb mm gI mL mQ K F) (hoC : othC gB gO mm om mL mQ oL oQ) (heV : eqV gV rV gN rN) (hGb : (G : Int) ≤ 3072 * yi.toInt) (hy0 : 0 ≤ yi.toInt) (hy8 : yi.toInt + 8 ≤ (L : Int)) (hL : L ≤ 4096) (hS : cF h0 s.heap H locs) (hX : va_X b L xs s H) (hl : lv_has ls 4 [(3, .int yi), (2, .ref (h0 + 92)), (1, .ref h0), (0, .ref b)]) (hcl : cells ≤ 600000) (hsl : slots ≤ 7302250) (kx : ∀ (H1 : Heap) (locs1 : List Loc) (tx' : Nat → Nat) (gC' : Int32) (gP' : Int32) (gT' : Nat → Int32) (gR' : Nat → Int32) (mm' : Int32) (ms' : Int32) (mg' : Int32) (mL' : Nat → Int32) (mQ' : Nat → Int32) (mZ' : Nat → Int32) (dm' : Int32) (ds' : Int32) (dg' : Int32) (dL' : Nat → Int32) (dQ' : Nat → Int32) (dZ' : Nat → Int32) (om' : Int32) (os' : Int32) (og' : Int32) (oL' : Nat → Int32) (oQ' : Nat → Int32) (oZ' : Nat → Int32) (gB' : Int32) (gO' : Int32) (xk' : Int32) (gE' : Int32) (gV' : Nat → Int32) (gU' : Nat → Int32) (gN' : Nat → Int32) (G' : Nat) (gW' : Nat → Int32) (gA' : Nat → Int32) (gI' : Int32) (gS' : Int32) (gM' : Int32) (K' : Nat → Int32) (F' : Nat → Int32) (S' : Nat → Int32) (N' : Nat → Int32) (gH' : Int) (gJ' : Int) (ge' : Int32) (gk' : Int32) (gf' : Int32) (gs' : Int32) (gg' : Int32) (gr' : Int32) (RN' : Nat → Int32) (gb' : Int32) (rV' : Nat → Int32) (rN' : Nat → Int32), cT h0 tm tx' → tG D (hF cI cL cC gC' gP' gT' gR' mm' ms' mg' mL' mQ' mZ' dm' ds' dg' dL' dQ' dZ' om' os' og' oL' oQ' oZ' gB' gO' xk' gE' gV' gU' gN' G' gW' gA') tx' H1 → tG D (mF cI cL cC gC' gE' gW' gA' gT' gI' gS' gM' K' F' S' N' gH' gJ' ge' gk' gf' gs' gg' gr' RN' gb' rV' rN') tm H1 → (0 ≤ gC'.toInt) → (gC'.toInt ≤ 400) → (0 ≤ gP'.toInt) → (gP'.toInt ≤ 400) → (gBd 400 0 255 gT') → (0 ≤ mg'.toInt) → (mg'.toInt ≤ 4) → (0 ≤ dg'.toInt) → (dg'.toInt ≤ 4) → (0 ≤ og'.toInt) → (og'.toInt ≤ 4) → (0 ≤ xk'.toInt) → (xk'.toInt ≤ 3) → (0 ≤ gI'.toInt) → (gI'.toInt ≤ 40) → (0 ≤ gH') → (gH' ≤ 96) → (0 ≤ gM'.toInt) → (gM'.toInt ≤ 3) → (okM K' F' S' N' 0 gI'.toInt) → (swM gS' K' F' S' N' gI'.toInt) → (othR gb' gS' gI' K' F') → (relB gB' gb' mm' gI' mL' mQ' K' F') → (othC gB' gO' mm' om' mL' mQ' oL' oQ') → (eqV gV' rV' gN' rN') → (G' : Int) ≤ 3072 * yi.toInt + 24576 → cF h0 s.heap H1 locs1 → va_X b L xs s H1 → W p l e room_1 s m #[Value.ref b] below meth c H1 locs1 cells slots Q (F0 m 1409 ls [])) : W p l e room_1 s m #[Value.ref b] below meth c H locs cells slots Q (F0 m 323 ls []) := by
  refine lv_aload_n hx hb dL_law_323 rfl (lv_at hl 2 rfl) ?_
  refine lw_argC hx hb hX hl hy0 hy8 hL 1 (by decide) (by decide) dL_law_324 dL_law_325 dL_law_326 dL_law_327 dL_law_328 ?_
  refine lv_pc (pc2 := 329) rfl ?_
  refine lw_argC hx hb hX hl hy0 hy8 hL 2 (by decide) (by decide) dL_law_329 dL_law_330 dL_law_331 dL_law_332 dL_law_333 ?_
  refine lv_pc (pc2 := 334) rfl ?_
  refine lw_argC hx hb hX hl hy0 hy8 hL 3 (by decide) (by decide) dL_law_334 dL_law_335 dL_law_336 dL_law_337 dL_law_338 ?_
  refine lv_pc (pc2 := 339) rfl ?_
  refine lw_argC hx hb hX hl hy0 hy8 hL 4 (by decide) (by decide) dL_law_339 dL_law_340 dL_law_341 dL_law_342 dL_law_343 ?_
  refine lv_pc (pc2 := 344) rfl ?_
  obtain ⟨_, at_1⟩ := rcvH hG hT0.1
  have hV_5 : tG D (gF cI cL cC gC gE G gW gA) (fun q => cwA (tx q)) H := tG.vw hG (cwA_vw ⟨by omega, by omega⟩ ⟨by omega, by omega, by omega, by omega⟩ ⟨by omega, by omega⟩ ⟨by omega, by omega⟩ ⟨by omega, by omega⟩) rfl
  refine lw_calli (W.runV (As := [.int (xs (yi.toInt + 1).toNat), .int (xs (yi.toInt + 2).toNat), .int (xs (yi.toInt + 3).toNat), .int (xs (yi.toInt + 4).toNat)]) (rest := []) ⟨hx, hb, hml, hown, hts⟩ (s_X9_weather l D (fun q => cwA (tx q)) cI cL cC gC gE G gW gA h0 (xs (yi.toInt + 1).toNat) (xs (yi.toInt + 2).toNat) (xs (yi.toInt + 3).toNat) (xs (yi.toInt + 4).toNat) (by show cwA (tx h0) = 1; rw [hT0.1]; rfl)) (cwV 4 hts gu_L_X9_weather rfl rfl rfl (by decide +kernel) ⟨Nat.le_of_ble_eq_true rfl, Nat.le_of_ble_eq_true rfl⟩) (tP_V hV_5 hE at_1 rfl) rfl rfl hl.1 rfl (lv_room (Nat.le_of_ble_eq_true rfl)) dL_law_344 ⟨hcl, hsl⟩) hS rfl (fun q h => by show cwA (tx q) = 0; rw [hT0.2.1 q h]; rfl) (fun r_2 H locs hp_3 hV_6 hS o_4 => ?_)
  replace hX := hX.kept (o_4 b (by show wrSk (cwA (tx b)) = false; rw [hT0.2.1 b hbl]; rfl))
  replace hM := tG.keptW hM o_4 (fun q h => by show wrSk (cwA (tx q)) = false; rw [hT0.2.2.1 q h]; rfl)
  replace hG : tG D (hF cI cL cC gC gP gT gR mm ms mg mL mQ mZ dm ds dg dL dQ dZ om os og oL oQ oZ gB gO xk gE gV gU gN G gW gA) tx H := tG.unvw hG hV_6 o_4 rfl (cwA_wrSk_b (G := G)) (cwA_wrSk_o (by omega))
  clear hV_5 hV_6
  refine lv_pop hx hb dL_law_347 rfl ?_
  refine lv_pc (pc2 := 348) rfl ?_
  refine lv_aload_n hx hb dL_law_348 rfl (lv_at hl 1 rfl) ?_
  refine lw_argC hx hb hX hl hy0 hy8 hL 1 (by decide) (by decide) dL_law_349 dL_law_350 dL_law_351 dL_law_352 dL_law_353 ?_
  refine lv_pc (pc2 := 354) rfl ?_
  refine lw_argC hx hb hX hl hy0 hy8 hL 2 (by decide) (by decide) dL_law_354 dL_law_355 dL_law_356 dL_law_357 dL_law_358 ?_
  refine lv_pc (pc2 := 359) rfl ?_
  refine lw_argC hx hb hX hl hy0 hy8 hL 3 (by decide) (by decide) dL_law_359 dL_law_360 dL_law_361 dL_law_362 dL_law_363 ?_
  refine lv_pc (pc2 := 364) rfl ?_
  refine lw_argC hx hb hX hl hy0 hy8 hL 4 (by decide) (by decide) dL_law_364 dL_law_365 dL_law_366 dL_law_367 dL_law_368 ?_
  refine lv_pc (pc2 := 369) rfl ?_
  obtain ⟨_, at_7⟩ := rcv40 hM kt2
  refine lw_calli (W.runV (As := [.int (xs (yi.toInt + 1).toNat), .int (xs (yi.toInt + 2).toNat), .int (xs (yi.toInt + 3).toNat), .int (xs (yi.toInt + 4).toNat)]) (rest := []) ⟨hx, hb, hml, hown, hts⟩ (m_X10_weather l D tm cI cL cC gC gE gW gA gT gI gS gM K F S N gH gJ ge gk gf gs gg gr RN gb rV rN (h0 + 92) (xs (yi.toInt + 1).toNat) (xs (yi.toInt + 2).toNat) (xs (yi.toInt + 3).toNat) (xs (yi.toInt + 4).toNat) uqm hC0 hC4 hI0 hI4 hH0 hH9 hm0 hm3 hO0 hW hoR kt2) (cwV 4 hts gu_L_X10_weather rfl rfl rfl (by decide +kernel) ⟨Nat.le_of_ble_eq_true rfl, Nat.le_of_ble_eq_true rfl⟩) (tP_V hM hE at_7 rfl) rfl rfl hl.1 rfl (lv_room (Nat.le_of_ble_eq_true rfl)) dL_law_369 ⟨hcl, hsl⟩) hS rfl hm00 (fun r_8 H locs hp_9 hM hS o_10 => ?_)
  replace hX := hX.kept (o_10 b (by rw [hm00 b hbl]; rfl))
  replace hG := tG.keptW hG o_10 (fun q h => by rw [hT0.2.2.2.1 q h]; rfl)
  have hp_9 : r_8 = aww (xs (yi.toInt + 1).toNat) (xs (yi.toInt + 2).toNat) (xs (yi.toInt + 3).toNat) (xs (yi.toInt + 4).toNat) := hp_9
  have p_12 := hp_9
  refine lv_pop hx hb dL_law_372 rfl ?_
  refine lv_goto (tgt := 1409) hx hb dL_law_373 (by decide) ?_
  exact kx H locs tx _ _ _ _ _ _ _ _ _ _ _ _ _ _ _ _ _ _ _ _ _ _ _ _ _ _ _ _ _ _ _ _ _ _ _ _ _ _ _ _ _ _ _ _ _ _ _ _ _ _ _ hT0 hG hM hC0 hC4 hP0 hP4 hTg mg0 mg4 dg0 dg4 og0 og4 xk0 xk3 hI0 hI4 hH0 hH9 hm0 hm3 hO0 hW hoR (relB.step hrB smC.rf smR.rf) hoC heV (by omega) hS hX
theorem dL_law_376 : decode cL_law 376 = .ok (.aload_n 1, 1) := by decide +kernel
theorem dL_law_377 : decode cL_law 377 = .ok (.invokevirtual 43, 3) := by decide +kernel
theorem dL_law_380 : decode cL_law 380 = .ok (.pop, 1) := by decide +kernel
theorem dL_law_381 : decode cL_law 381 = .ok (.aload_n 2, 1) := by decide +kernel
theorem dL_law_382 : decode cL_law 382 = .ok (.invokevirtual 46, 3) := by decide +kernel
theorem dL_law_385 : decode cL_law 385 = .ok (.pop, 1) := by decide +kernel
theorem dL_law_386 : decode cL_law 386 = .ok (.goto 1023, 3) := by decide +kernel
set_option maxRecDepth 20000 in
theorem gu_L_X9_anew : GoodIn wsL_law (wsV RL 43 RX9 yX9_anew uX9_anew) := goodIn_r _ [424, 425, 426, 2, 427, 23, 35, 428, 20, 344, 345, 346, 34, 347, 87, 356, 357, 80, 88, 359, 79, 89, 90, 91, 92, 93, 86, 348, 349, 350, 19, 358, 81, 351, 250, 251, 252, 67, 352, 353, 354, 253, 355, 66, 1064, 1065, 1066, 1067, 1068, 1069, 1070, 1071, 1072, 1073, 1074, 1075, 1076, 1077, 1078, 1079, 1080, 1081, 1130, 1131, 1132, 1133, 1134, 1135, 1136, 1137, 1122, 1123, 1124, 1125, 1126, 1127] rfl (by decide +kernel)
set_option maxRecDepth 20000 in
theorem gu_L_X10_anew : GoodIn wsL_law (wsV RL 46 RX10 yX10_anew uX10_anew) := goodIn_r _ [429, 430, 431, 5, 432, 370, 142, 385, 386, 387, 5, 388, 377, 378, 379, 392, 393, 394, 156, 389, 390, 182, 183, 391, 380, 381, 382, 383, 140, 384, 365, 137, 138, 395, 184, 1082, 1083, 1084, 1085, 1086, 1087, 1088, 1089, 1090, 1091, 1092, 1093, 1094, 1095, 1096, 1097, 1098, 1099, 1100, 1101, 1102, 1103, 1104, 1105, 1106, 1107, 1108, 1109, 1110, 1111, 1112, 1113, 1114, 1115, 1116, 1117] rfl (by decide +kernel)
set_option maxHeartbeats 4000000 in
set_option maxRecDepth 100000 in
theorem lc_6 {p : Program} {l : Launch} {e : Env} {s : State} {m : MethodId} {below : List Frame} {meth : Method} {c : Code} {cells slots : Nat} {Q : State → Prop} {b h0 L : Nat} {xs : Nat → Int32} {yi : Int32} {D : va_G} {cI cL cC : ClassId} {tx tm : Nat → Nat} {H : Heap} {locs : List Loc} {ls : Array Slot} {gC : Int32} {gP : Int32} {gT : Nat → Int32} {gR : Nat → Int32} {mm : Int32} {ms : Int32} {mg : Int32} {mL : Nat → Int32} {mQ : Nat → Int32} {mZ : Nat → Int32} {dm : Int32} {ds : Int32} {dg : Int32} {dL : Nat → Int32} {dQ : Nat → Int32} {dZ : Nat → Int32} {om : Int32} {os : Int32} {og : Int32} {oL : Nat → Int32} {oQ : Nat → Int32} {oZ : Nat → Int32} {gB : Int32} {gO : Int32} {xk : Int32} {gE : Int32} {gV : Nat → Int32} {gU : Nat → Int32} {gN : Nat → Int32} {G : Nat} {gW : Nat → Int32} {gA : Nat → Int32} {gI : Int32} {gS : Int32} {gM : Int32} {K : Nat → Int32} {F : Nat → Int32} {S : Nat → Int32} {N : Nat → Int32} {gH : Int} {gJ : Int} {ge : Int32} {gk : Int32} {gf : Int32} {gs : Int32} {gg : Int32} {gr : Int32} {RN : Nat → Int32} {gb : Int32} {rV : Nat → Int32} {rN : Nat → Int32} (hx : p.tables.exec = Jvm.exec) (hb : c.code = cL_law) (hml : c.maxLocals = 4) (hown : s.vm.findClass RL = some m.cls) (hts : ∀ w ∈ wsL_law, w.before #[Value.ref b] s = true) (hE : EV D cI cL cC s) (hbl : b < h0) (hT0 : cT h0 tm tx) (hG : tG D (hF cI cL cC gC gP gT gR mm ms mg mL mQ mZ dm ds dg dL dQ dZ om os og oL oQ oZ gB gO xk gE gV gU gN G gW gA) tx H) (hM : tG D (mF cI cL cC gC gE gW gA gT gI gS gM K F S N gH gJ ge gk gf gs gg gr RN gb rV rN) tm H) (kt2 : tm (h0 + 92) = 40) (hm00 : ∀ q : Nat, q < h0 → tm q = 0) (uqm : ∀ b c : Nat, tm b = tm c → tm b ≠ 0 → b = c) (hC0 : 0 ≤ gC.toInt) (hC4 : gC.toInt ≤ 400) (hP0 : 0 ≤ gP.toInt) (hP4 : gP.toInt ≤ 400) (hTg : gBd 400 0 255 gT) (mg0 : 0 ≤ mg.toInt) (mg4 : mg.toInt ≤ 4) (dg0 : 0 ≤ dg.toInt) (dg4 : dg.toInt ≤ 4) (og0 : 0 ≤ og.toInt) (og4 : og.toInt ≤ 4) (xk0 : 0 ≤ xk.toInt) (xk3 : xk.toInt ≤ 3) (hI0 : 0 ≤ gI.toInt) (hI4 : gI.toInt ≤ 40) (hH0 : 0 ≤ gH) (hH9 : gH ≤ 96) (hm0 : 0 ≤ gM.toInt) (hm3 : gM.toInt ≤ 3) (hO0 : okM K F S N 0 gI.toInt) (hW : swM gS K F S N gI.toInt) (hoR : othR gb gS gI K F) (hrB : relB gB gb mm gI mL mQ K F) (hoC : othC gB gO mm om mL mQ oL oQ) (heV : eqV gV rV gN rN) (hGb : (G : Int) ≤ 3072 * yi.toInt) (hy0 : 0 ≤ yi.toInt) (hy8 : yi.toInt + 8 ≤ (L : Int)) (hL : L ≤ 4096) (hS : cF h0 s.heap H locs) (hX : va_X b L xs s H) (hl : lv_has ls 4 [(3, .int yi), (2, .ref (h0 + 92)), (1, .ref h0), (0, .ref b)]) (hcl : cells ≤ 600000) (hsl : slots ≤ 7302250) (kx : ∀ (H1 : Heap) (locs1 : List Loc) (tx' : Nat → Nat) (gC' : Int32) (gP' : Int32) (gT' : Nat → Int32) (gR' : Nat → Int32) (mm' : Int32) (ms' : Int32) (mg' : Int32) (mL' : Nat → Int32) (mQ' : Nat → Int32) (mZ' : Nat → Int32) (dm' : Int32) (ds' : Int32) (dg' : Int32) (dL' : Nat → Int32) (dQ' : Nat → Int32) (dZ' : Nat → Int32) (om' : Int32) (os' : Int32) (og' : Int32) (oL' : Nat → Int32) (oQ' : Nat → Int32) (oZ' : Nat → Int32) (gB' : Int32) (gO' : Int32) (xk' : Int32) (gE' : Int32) (gV' : Nat → Int32) (gU' : Nat → Int32) (gN' : Nat → Int32) (G' : Nat) (gW' : Nat → Int32) (gA' : Nat → Int32) (gI' : Int32) (gS' : Int32) (gM' : Int32) (K' : Nat → Int32) (F' : Nat → Int32) (S' : Nat → Int32) (N' : Nat → Int32) (gH' : Int) (gJ' : Int) (ge' : Int32) (gk' : Int32) (gf' : Int32) (gs' : Int32) (gg' : Int32) (gr' : Int32) (RN' : Nat → Int32) (gb' : Int32) (rV' : Nat → Int32) (rN' : Nat → Int32), cT h0 tm tx' → tG D (hF cI cL cC gC' gP' gT' gR' mm' ms' mg' mL' mQ' mZ' dm' ds' dg' dL' dQ' dZ' om' os' og' oL' oQ' oZ' gB' gO' xk' gE' gV' gU' gN' G' gW' gA') tx' H1 → tG D (mF cI cL cC gC' gE' gW' gA' gT' gI' gS' gM' K' F' S' N' gH' gJ' ge' gk' gf' gs' gg' gr' RN' gb' rV' rN') tm H1 → (0 ≤ gC'.toInt) → (gC'.toInt ≤ 400) → (0 ≤ gP'.toInt) → (gP'.toInt ≤ 400) → (gBd 400 0 255 gT') → (0 ≤ mg'.toInt) → (mg'.toInt ≤ 4) → (0 ≤ dg'.toInt) → (dg'.toInt ≤ 4) → (0 ≤ og'.toInt) → (og'.toInt ≤ 4) → (0 ≤ xk'.toInt) → (xk'.toInt ≤ 3) → (0 ≤ gI'.toInt) → (gI'.toInt ≤ 40) → (0 ≤ gH') → (gH' ≤ 96) → (0 ≤ gM'.toInt) → (gM'.toInt ≤ 3) → (okM K' F' S' N' 0 gI'.toInt) → (swM gS' K' F' S' N' gI'.toInt) → (othR gb' gS' gI' K' F') → (relB gB' gb' mm' gI' mL' mQ' K' F') → (othC gB' gO' mm' om' mL' mQ' oL' oQ') → (eqV gV' rV' gN' rN') → (G' : Int) ≤ 3072 * yi.toInt + 24576 → cF h0 s.heap H1 locs1 → va_X b L xs s H1 → W p l e room_1 s m #[Value.ref b] below meth c H1 locs1 cells slots Q (F0 m 1409 ls [])) : W p l e room_1 s m #[Value.ref b] below meth c H locs cells slots Q (F0 m 376 ls []) := by
  refine lv_aload_n hx hb dL_law_376 rfl (lv_at hl 2 rfl) ?_
  obtain ⟨_, at_1⟩ := rcvH hG hT0.1
  have hV_5 : tG D (gF cI cL cC gC gE G gW gA) (fun q => cwA (tx q)) H := tG.vw hG (cwA_vw ⟨by omega, by omega⟩ ⟨by omega, by omega, by omega, by omega⟩ ⟨by omega, by omega⟩ ⟨by omega, by omega⟩ ⟨by omega, by omega⟩) rfl
  refine lw_calli (W.runV (As := []) (rest := []) ⟨hx, hb, hml, hown, hts⟩ (s_X9_anew l D (fun q => cwA (tx q)) cI cL cC gC gE G gW gA h0  (by show cwA (tx h0) = 1; rw [hT0.1]; rfl)) (cwV 0 hts gu_L_X9_anew rfl rfl rfl (by decide +kernel) ⟨Nat.le_of_ble_eq_true rfl, Nat.le_of_ble_eq_true rfl⟩) (tP_V hV_5 hE at_1 rfl) rfl rfl hl.1 rfl (lv_room (Nat.le_of_ble_eq_true rfl)) dL_law_377 ⟨hcl, hsl⟩) hS rfl (fun q h => by show cwA (tx q) = 0; rw [hT0.2.1 q h]; rfl) (fun r_2 H locs hp_3 hV_6 hS o_4 => ?_)
  replace hX := hX.kept (o_4 b (by show wrC (cwA (tx b)) = false; rw [hT0.2.1 b hbl]; rfl))
  replace hM := tG.keptW hM o_4 (fun q h => by show wrC (cwA (tx q)) = false; rw [hT0.2.2.1 q h]; rfl)
  replace hG : tG D (hF cI cL cC gC gP gT gR mm ms mg mL mQ mZ dm ds dg dL dQ dZ om os og oL oQ oZ gB gO xk gE gV gU gN G gW gA) tx H := tG.unvw hG hV_6 o_4 rfl (cwA_wrC_b (G := G)) (cwA_wrC_o (by omega))
  clear hV_5 hV_6
  refine lv_pop hx hb dL_law_380 rfl ?_
  refine lv_aload_n hx hb dL_law_381 rfl (lv_at hl 1 rfl) ?_
  obtain ⟨_, at_7⟩ := rcv40 hM kt2
  refine lx_calli (W.runV (As := []) (rest := []) ⟨hx, hb, hml, hown, hts⟩ (m_X10_anew l D tm cI cL cC gC gE gW gA gT gI gS gM K F S N gH gJ ge gk gf gs gg gr RN gb rV rN (h0 + 92)  uqm hC0 hC4 hI0 hI4 hH0 hH9 hm0 hm3 hO0 hW hoR kt2) (cwV 0 hts gu_L_X10_anew rfl rfl rfl (by decide +kernel) ⟨Nat.le_of_ble_eq_true rfl, Nat.le_of_ble_eq_true rfl⟩) (tP_V hM hE at_7 rfl) rfl rfl hl.1 rfl (lv_room (Nat.le_of_ble_eq_true rfl)) dL_law_382 ⟨hcl, hsl⟩) hS rfl hm00 (fun r_8 gH_11 H locs hp_9 hM hS o_10 => ?_)
  replace hX := hX.kept (o_10 b (by rw [hm00 b hbl]; rfl))
  replace hG := tG.keptW hG o_10 (fun q h => by rw [hT0.2.2.2.1 q h]; rfl)
  replace hM : tG D (mF cI cL cC gC gE gW gA gT gI gS gM K F S N gH_11 gJ ge gk gf gs gg gr RN gb rV rN) tm H := hM
  have hp_9 : 0 ≤ gH_11 ∧ gH_11 ≤ 96 := hp_9
  obtain ⟨p_13, p_14⟩ := hp_9
  refine lv_pop hx hb dL_law_385 rfl ?_
  refine lv_goto (tgt := 1409) hx hb dL_law_386 (by decide) ?_
  exact kx H locs tx _ _ _ _ _ _ _ _ _ _ _ _ _ _ _ _ _ _ _ _ _ _ _ _ _ _ _ _ _ _ _ _ _ _ _ _ _ _ _ _ _ _ _ _ _ _ _ _ _ _ _ hT0 hG hM hC0 hC4 hP0 hP4 hTg mg0 mg4 dg0 dg4 og0 og4 xk0 xk3 hI0 hI4 p_13 p_14 hm0 hm3 hO0 hW hoR (relB.step hrB smC.rf smR.rf) hoC heV (by omega) hS hX
theorem dL_law_389 : decode cL_law 389 = .ok (.aload_n 1, 1) := by decide +kernel
theorem dL_law_390 : decode cL_law 390 = .ok (.aload_n 0, 1) := by decide +kernel
theorem dL_law_391 : decode cL_law 391 = .ok (.iload_n 3, 1) := by decide +kernel
theorem dL_law_392 : decode cL_law 392 = .ok (.iconst 1, 1) := by decide +kernel
theorem dL_law_393 : decode cL_law 393 = .ok (.iadd, 1) := by decide +kernel
theorem dL_law_394 : decode cL_law 394 = .ok (.iaload, 1) := by decide +kernel
theorem dL_law_395 : decode cL_law 395 = .ok (.invokevirtual 47, 3) := by decide +kernel
theorem dL_law_398 : decode cL_law 398 = .ok (.pop, 1) := by decide +kernel
theorem dL_law_399 : decode cL_law 399 = .ok (.aload_n 2, 1) := by decide +kernel
theorem dL_law_400 : decode cL_law 400 = .ok (.aload_n 0, 1) := by decide +kernel
theorem dL_law_401 : decode cL_law 401 = .ok (.iload_n 3, 1) := by decide +kernel
theorem dL_law_402 : decode cL_law 402 = .ok (.iconst 1, 1) := by decide +kernel
theorem dL_law_403 : decode cL_law 403 = .ok (.iadd, 1) := by decide +kernel
theorem dL_law_404 : decode cL_law 404 = .ok (.iaload, 1) := by decide +kernel
theorem dL_law_405 : decode cL_law 405 = .ok (.invokevirtual 51, 3) := by decide +kernel
theorem dL_law_408 : decode cL_law 408 = .ok (.pop, 1) := by decide +kernel
theorem dL_law_409 : decode cL_law 409 = .ok (.goto 1000, 3) := by decide +kernel
set_option maxRecDepth 20000 in
theorem gu_L_X9_run : GoodIn wsL_law (wsV RL 47 RX9 yX9_run uX9_run) := goodIn_r _ [433, 434, 435, 2, 436, 168, 169, 2, 23, 35, 428, 20, 28, 437, 438, 439, 34, 170, 440, 93, 441, 442, 443, 27, 445, 446, 447, 449, 450, 451, 444, 76, 448, 77, 452, 454, 455, 456, 453, 458, 459, 460, 87, 489, 490, 491, 457, 86, 89, 461, 471, 353, 354, 19, 223, 479, 480, 481, 483, 484, 485, 466, 467, 464, 468, 472, 473, 469, 475, 476, 477, 462, 463, 465, 470, 355, 66, 224, 482, 71, 68, 486, 487, 88, 488, 474, 478, 250, 251, 252, 67, 352, 253, 492, 90, 493, 494, 495, 92, 91, 496, 1064, 1065, 1066, 1067, 1068, 1069, 1070, 1071, 1072, 1073, 1074, 1075, 1076, 1077, 1078, 1079, 1080, 1081, 1130, 1131, 1132, 1133, 1134, 1135, 1136, 1137, 1128, 1129, 1122, 1123, 1124, 1125, 1126, 1127] rfl (by decide +kernel)
set_option maxRecDepth 20000 in
theorem gu_L_X10_run : GoodIn wsL_law (wsV RL 51 RX10 yX10_run uX10_run) := goodIn_r _ [497, 498, 499, 5, 500, 501, 182, 183, 5, 370, 142, 502, 503, 504, 184, 505, 141, 506, 507, 508, 509, 365, 137, 510, 511, 512, 138, 139, 140, 513, 514, 519, 520, 521, 320, 515, 516, 517, 522, 518, 381, 382, 383, 384, 1082, 1083, 1084, 1085, 1086, 1087, 1088, 1089, 1090, 1091, 1092, 1093, 1094, 1095, 1096, 1097, 1098, 1099, 1100, 1101, 1102, 1103, 1104, 1105, 1106, 1107, 1108, 1109, 1110, 1111, 1112, 1113, 1114, 1115, 1116, 1117] rfl (by decide +kernel)
set_option maxHeartbeats 4000000 in
set_option maxRecDepth 100000 in
theorem lc_7 {p : Program} {l : Launch} {e : Env} {s : State} {m : MethodId} {below : List Frame} {meth : Method} {c : Code} {cells slots : Nat} {Q : State → Prop} {b h0 L : Nat} {xs : Nat → Int32} {yi : Int32} {D : va_G} {cI cL cC : ClassId} {tx tm : Nat → Nat} {H : Heap} {locs : List Loc} {ls : Array Slot} {gC : Int32} {gP : Int32} {gT : Nat → Int32} {gR : Nat → Int32} {mm : Int32} {ms : Int32} {mg : Int32} {mL : Nat → Int32} {mQ : Nat → Int32} {mZ : Nat → Int32} {dm : Int32} {ds : Int32} {dg : Int32} {dL : Nat → Int32} {dQ : Nat → Int32} {dZ : Nat → Int32} {om : Int32} {os : Int32} {og : Int32} {oL : Nat → Int32} {oQ : Nat → Int32} {oZ : Nat → Int32} {gB : Int32} {gO : Int32} {xk : Int32} {gE : Int32} {gV : Nat → Int32} {gU : Nat → Int32} {gN : Nat → Int32} {G : Nat} {gW : Nat → Int32} {gA : Nat → Int32} {gI : Int32} {gS : Int32} {gM : Int32} {K : Nat → Int32} {F : Nat → Int32} {S : Nat → Int32} {N : Nat → Int32} {gH : Int} {gJ : Int} {ge : Int32} {gk : Int32} {gf : Int32} {gs : Int32} {gg : Int32} {gr : Int32} {RN : Nat → Int32} {gb : Int32} {rV : Nat → Int32} {rN : Nat → Int32} (hx : p.tables.exec = Jvm.exec) (hb : c.code = cL_law) (hml : c.maxLocals = 4) (hown : s.vm.findClass RL = some m.cls) (hts : ∀ w ∈ wsL_law, w.before #[Value.ref b] s = true) (hE : EV D cI cL cC s) (hbl : b < h0) (hT0 : cT h0 tm tx) (hG : tG D (hF cI cL cC gC gP gT gR mm ms mg mL mQ mZ dm ds dg dL dQ dZ om os og oL oQ oZ gB gO xk gE gV gU gN G gW gA) tx H) (hM : tG D (mF cI cL cC gC gE gW gA gT gI gS gM K F S N gH gJ ge gk gf gs gg gr RN gb rV rN) tm H) (kt2 : tm (h0 + 92) = 40) (hm00 : ∀ q : Nat, q < h0 → tm q = 0) (uqm : ∀ b c : Nat, tm b = tm c → tm b ≠ 0 → b = c) (hC0 : 0 ≤ gC.toInt) (hC4 : gC.toInt ≤ 400) (hP0 : 0 ≤ gP.toInt) (hP4 : gP.toInt ≤ 400) (hTg : gBd 400 0 255 gT) (mg0 : 0 ≤ mg.toInt) (mg4 : mg.toInt ≤ 4) (dg0 : 0 ≤ dg.toInt) (dg4 : dg.toInt ≤ 4) (og0 : 0 ≤ og.toInt) (og4 : og.toInt ≤ 4) (xk0 : 0 ≤ xk.toInt) (xk3 : xk.toInt ≤ 3) (hI0 : 0 ≤ gI.toInt) (hI4 : gI.toInt ≤ 40) (hH0 : 0 ≤ gH) (hH9 : gH ≤ 96) (hm0 : 0 ≤ gM.toInt) (hm3 : gM.toInt ≤ 3) (hO0 : okM K F S N 0 gI.toInt) (hW : swM gS K F S N gI.toInt) (hoR : othR gb gS gI K F) (hrB : relB gB gb mm gI mL mQ K F) (hoC : othC gB gO mm om mL mQ oL oQ) (heV : eqV gV rV gN rN) (hGb : (G : Int) ≤ 3072 * yi.toInt) (hy0 : 0 ≤ yi.toInt) (hy8 : yi.toInt + 8 ≤ (L : Int)) (hL : L ≤ 4096) (hS : cF h0 s.heap H locs) (hX : va_X b L xs s H) (hl : lv_has ls 4 [(3, .int yi), (2, .ref (h0 + 92)), (1, .ref h0), (0, .ref b)]) (hcl : cells ≤ 600000) (hsl : slots ≤ 7302250) (kx : ∀ (H1 : Heap) (locs1 : List Loc) (tx' : Nat → Nat) (gC' : Int32) (gP' : Int32) (gT' : Nat → Int32) (gR' : Nat → Int32) (mm' : Int32) (ms' : Int32) (mg' : Int32) (mL' : Nat → Int32) (mQ' : Nat → Int32) (mZ' : Nat → Int32) (dm' : Int32) (ds' : Int32) (dg' : Int32) (dL' : Nat → Int32) (dQ' : Nat → Int32) (dZ' : Nat → Int32) (om' : Int32) (os' : Int32) (og' : Int32) (oL' : Nat → Int32) (oQ' : Nat → Int32) (oZ' : Nat → Int32) (gB' : Int32) (gO' : Int32) (xk' : Int32) (gE' : Int32) (gV' : Nat → Int32) (gU' : Nat → Int32) (gN' : Nat → Int32) (G' : Nat) (gW' : Nat → Int32) (gA' : Nat → Int32) (gI' : Int32) (gS' : Int32) (gM' : Int32) (K' : Nat → Int32) (F' : Nat → Int32) (S' : Nat → Int32) (N' : Nat → Int32) (gH' : Int) (gJ' : Int) (ge' : Int32) (gk' : Int32) (gf' : Int32) (gs' : Int32) (gg' : Int32) (gr' : Int32) (RN' : Nat → Int32) (gb' : Int32) (rV' : Nat → Int32) (rN' : Nat → Int32), cT h0 tm tx' → tG D (hF cI cL cC gC' gP' gT' gR' mm' ms' mg' mL' mQ' mZ' dm' ds' dg' dL' dQ' dZ' om' os' og' oL' oQ' oZ' gB' gO' xk' gE' gV' gU' gN' G' gW' gA') tx' H1 → tG D (mF cI cL cC gC' gE' gW' gA' gT' gI' gS' gM' K' F' S' N' gH' gJ' ge' gk' gf' gs' gg' gr' RN' gb' rV' rN') tm H1 → (0 ≤ gC'.toInt) → (gC'.toInt ≤ 400) → (0 ≤ gP'.toInt) → (gP'.toInt ≤ 400) → (gBd 400 0 255 gT') → (0 ≤ mg'.toInt) → (mg'.toInt ≤ 4) → (0 ≤ dg'.toInt) → (dg'.toInt ≤ 4) → (0 ≤ og'.toInt) → (og'.toInt ≤ 4) → (0 ≤ xk'.toInt) → (xk'.toInt ≤ 3) → (0 ≤ gI'.toInt) → (gI'.toInt ≤ 40) → (0 ≤ gH') → (gH' ≤ 96) → (0 ≤ gM'.toInt) → (gM'.toInt ≤ 3) → (okM K' F' S' N' 0 gI'.toInt) → (swM gS' K' F' S' N' gI'.toInt) → (othR gb' gS' gI' K' F') → (relB gB' gb' mm' gI' mL' mQ' K' F') → (othC gB' gO' mm' om' mL' mQ' oL' oQ') → (eqV gV' rV' gN' rN') → (G' : Int) ≤ 3072 * yi.toInt + 24576 → cF h0 s.heap H1 locs1 → va_X b L xs s H1 → W p l e room_1 s m #[Value.ref b] below meth c H1 locs1 cells slots Q (F0 m 1409 ls [])) : W p l e room_1 s m #[Value.ref b] below meth c H locs cells slots Q (F0 m 389 ls []) := by
  refine lv_aload_n hx hb dL_law_389 rfl (lv_at hl 2 rfl) ?_
  refine lw_argC hx hb hX hl hy0 hy8 hL 1 (by decide) (by decide) dL_law_390 dL_law_391 dL_law_392 dL_law_393 dL_law_394 ?_
  refine lv_pc (pc2 := 395) rfl ?_
  obtain ⟨_, at_1⟩ := rcvH hG hT0.1
  have hV_5 : tG D (gF cI cL cC gC gE G gW gA) (fun q => cwA (tx q)) H := tG.vw hG (cwA_vw ⟨by omega, by omega⟩ ⟨by omega, by omega, by omega, by omega⟩ ⟨by omega, by omega⟩ ⟨by omega, by omega⟩ ⟨by omega, by omega⟩) rfl
  refine lw_calli (W.runV (As := [.int (xs (yi.toInt + 1).toNat)]) (rest := []) ⟨hx, hb, hml, hown, hts⟩ (s_X9_run l D (fun q => cwA (tx q)) cI cL cC gC gE G gW gA h0 (xs (yi.toInt + 1).toNat) (by omega) (by show cwA (tx h0) = 1; rw [hT0.1]; rfl)) (cwV 1 hts gu_L_X9_run rfl rfl rfl (by decide +kernel) ⟨Nat.le_of_ble_eq_true rfl, Nat.le_of_ble_eq_true rfl⟩) (tP_V hV_5 hE at_1 rfl) rfl rfl hl.1 rfl (lv_room (Nat.le_of_ble_eq_true rfl)) dL_law_395 ⟨hcl, hsl⟩) hS rfl (fun q h => by show cwA (tx q) = 0; rw [hT0.2.1 q h]; rfl) (fun r_2 H locs hp_3 hV_6 hS o_4 => ?_)
  replace hX := hX.kept (o_4 b (by show wrC (cwA (tx b)) = false; rw [hT0.2.1 b hbl]; rfl))
  replace hM := tG.keptW hM o_4 (fun q h => by show wrC (cwA (tx q)) = false; rw [hT0.2.2.1 q h]; rfl)
  replace hG : tG D (hF cI cL cC gC gP gT gR mm ms mg mL mQ mZ dm ds dg dL dQ dZ om os og oL oQ oZ gB gO xk gE gV gU gN (G + 96) gW gA) tx H := tG.unvw hG hV_6 o_4 rfl (cwA_wrC_b (G := G)) (cwA_wrC_o (by omega))
  clear hV_5 hV_6
  refine lv_pop hx hb dL_law_398 rfl ?_
  refine lv_aload_n hx hb dL_law_399 rfl (lv_at hl 1 rfl) ?_
  refine lw_argC hx hb hX hl hy0 hy8 hL 1 (by decide) (by decide) dL_law_400 dL_law_401 dL_law_402 dL_law_403 dL_law_404 ?_
  refine lv_pc (pc2 := 405) rfl ?_
  obtain ⟨_, at_7⟩ := rcv40 hM kt2
  refine lx_calli (W.runV (As := [.int (xs (yi.toInt + 1).toNat)]) (rest := []) ⟨hx, hb, hml, hown, hts⟩ (m_X10_run l D tm cI cL cC gC gE gW gA gT gI gS gM K F S N gH gJ ge gk gf gs gg gr RN gb rV rN (h0 + 92) (xs (yi.toInt + 1).toNat) uqm hC0 hC4 hI0 hI4 hH0 hH9 hm0 hm3 hO0 hW hoR kt2) (cwV 1 hts gu_L_X10_run rfl rfl rfl (by decide +kernel) ⟨Nat.le_of_ble_eq_true rfl, Nat.le_of_ble_eq_true rfl⟩) (tP_V hM hE at_7 rfl) rfl rfl hl.1 rfl (lv_room (Nat.le_of_ble_eq_true rfl)) dL_law_405 ⟨hcl, hsl⟩) hS rfl hm00 (fun r_8 gH_11 H locs hp_9 hM hS o_10 => ?_)
  replace hX := hX.kept (o_10 b (by rw [hm00 b hbl]; rfl))
  replace hG := tG.keptW hG o_10 (fun q h => by rw [hT0.2.2.2.1 q h]; rfl)
  replace hM : tG D (mF cI cL cC gC gE gW gA gT gI gS gM K F S N gH_11 gJ ge gk gf gs gg gr RN gb rV rN) tm H := hM
  have hp_9 : 0 ≤ gH_11 ∧ gH_11 ≤ 96 := hp_9
  obtain ⟨p_13, p_14⟩ := hp_9
  refine lv_pc (pc2 := 408) rfl ?_
  refine lv_pop hx hb dL_law_408 rfl ?_
  refine lv_goto (tgt := 1409) hx hb dL_law_409 (by decide) ?_
  exact kx H locs tx _ _ _ _ _ _ _ _ _ _ _ _ _ _ _ _ _ _ _ _ _ _ _ _ _ _ _ _ _ _ _ _ _ _ _ _ _ _ _ _ _ _ _ _ _ _ _ _ _ _ _ hT0 hG hM hC0 hC4 hP0 hP4 hTg mg0 mg4 dg0 dg4 og0 og4 xk0 xk3 hI0 hI4 p_13 p_14 hm0 hm3 hO0 hW hoR (relB.step hrB smC.rf smR.rf) hoC heV (by omega) hS hX
theorem dL_law_412 : decode cL_law 412 = .ok (.aload_n 1, 1) := by decide +kernel
theorem dL_law_413 : decode cL_law 413 = .ok (.aload_n 0, 1) := by decide +kernel
theorem dL_law_414 : decode cL_law 414 = .ok (.iload_n 3, 1) := by decide +kernel
theorem dL_law_415 : decode cL_law 415 = .ok (.iconst 1, 1) := by decide +kernel
theorem dL_law_416 : decode cL_law 416 = .ok (.iadd, 1) := by decide +kernel
theorem dL_law_417 : decode cL_law 417 = .ok (.iaload, 1) := by decide +kernel
theorem dL_law_418 : decode cL_law 418 = .ok (.aload_n 0, 1) := by decide +kernel
theorem dL_law_419 : decode cL_law 419 = .ok (.iload_n 3, 1) := by decide +kernel
theorem dL_law_420 : decode cL_law 420 = .ok (.iconst 2, 1) := by decide +kernel
theorem dL_law_421 : decode cL_law 421 = .ok (.iadd, 1) := by decide +kernel
theorem dL_law_422 : decode cL_law 422 = .ok (.iaload, 1) := by decide +kernel
theorem dL_law_423 : decode cL_law 423 = .ok (.invokevirtual 52, 3) := by decide +kernel
theorem dL_law_426 : decode cL_law 426 = .ok (.pop2, 1) := by decide +kernel
theorem dL_law_427 : decode cL_law 427 = .ok (.aload_n 2, 1) := by decide +kernel
theorem dL_law_428 : decode cL_law 428 = .ok (.aload_n 0, 1) := by decide +kernel
theorem dL_law_429 : decode cL_law 429 = .ok (.iload_n 3, 1) := by decide +kernel
theorem dL_law_430 : decode cL_law 430 = .ok (.iconst 1, 1) := by decide +kernel
theorem dL_law_431 : decode cL_law 431 = .ok (.iadd, 1) := by decide +kernel
theorem dL_law_432 : decode cL_law 432 = .ok (.iaload, 1) := by decide +kernel
theorem dL_law_433 : decode cL_law 433 = .ok (.aload_n 0, 1) := by decide +kernel
theorem dL_law_434 : decode cL_law 434 = .ok (.iload_n 3, 1) := by decide +kernel
theorem dL_law_435 : decode cL_law 435 = .ok (.iconst 2, 1) := by decide +kernel
theorem dL_law_436 : decode cL_law 436 = .ok (.iadd, 1) := by decide +kernel
theorem dL_law_437 : decode cL_law 437 = .ok (.iaload, 1) := by decide +kernel
theorem dL_law_438 : decode cL_law 438 = .ok (.invokevirtual 56, 3) := by decide +kernel
theorem dL_law_441 : decode cL_law 441 = .ok (.pop2, 1) := by decide +kernel
theorem dL_law_442 : decode cL_law 442 = .ok (.goto 967, 3) := by decide +kernel
set_option maxRecDepth 20000 in
theorem gu_L_X9_has : GoodIn wsL_law (wsV RL 52 RX9 yX9_has uX9_has) := goodIn_r _ [523, 524, 525, 2, 526, 530, 223, 2, 527, 168, 169, 531, 532, 533, 35, 536, 537, 538, 34, 529, 528, 224, 170, 534, 23, 20, 535, 251, 252, 19, 253, 67, 539, 89, 1064, 1065, 1066, 1067, 1068, 1069, 1070, 1071, 1072, 1073, 1074, 1075, 1076, 1077, 1078, 1079, 1080, 1081, 1130, 1131, 1132, 1133, 1134, 1135, 1136, 1137, 1122, 1123, 1124, 1125, 1126, 1127] rfl (by decide +kernel)
set_option maxRecDepth 20000 in
theorem gu_L_X10_has : GoodIn wsL_law (wsV RL 56 RX10 yX10_has uX10_has) := goodIn_r _ [540, 541, 542, 5, 543, 544, 182, 183, 5, 370, 546, 392, 393, 394, 547, 548, 549, 142, 545, 184, 395, 381, 382, 383, 384, 365, 137, 138, 550, 1082, 1083, 1084, 1085, 1086, 1087, 1088, 1089, 1090, 1091, 1092, 1093, 1094, 1095, 1096, 1097, 1098, 1099, 1100, 1101, 1102, 1103, 1104, 1105, 1106, 1107, 1108, 1109, 1110, 1111, 1112, 1113, 1114, 1115, 1116, 1117] rfl (by decide +kernel)
set_option maxHeartbeats 4000000 in
set_option maxRecDepth 100000 in
theorem lc_8 {p : Program} {l : Launch} {e : Env} {s : State} {m : MethodId} {below : List Frame} {meth : Method} {c : Code} {cells slots : Nat} {Q : State → Prop} {b h0 L : Nat} {xs : Nat → Int32} {yi : Int32} {D : va_G} {cI cL cC : ClassId} {tx tm : Nat → Nat} {H : Heap} {locs : List Loc} {ls : Array Slot} {gC : Int32} {gP : Int32} {gT : Nat → Int32} {gR : Nat → Int32} {mm : Int32} {ms : Int32} {mg : Int32} {mL : Nat → Int32} {mQ : Nat → Int32} {mZ : Nat → Int32} {dm : Int32} {ds : Int32} {dg : Int32} {dL : Nat → Int32} {dQ : Nat → Int32} {dZ : Nat → Int32} {om : Int32} {os : Int32} {og : Int32} {oL : Nat → Int32} {oQ : Nat → Int32} {oZ : Nat → Int32} {gB : Int32} {gO : Int32} {xk : Int32} {gE : Int32} {gV : Nat → Int32} {gU : Nat → Int32} {gN : Nat → Int32} {G : Nat} {gW : Nat → Int32} {gA : Nat → Int32} {gI : Int32} {gS : Int32} {gM : Int32} {K : Nat → Int32} {F : Nat → Int32} {S : Nat → Int32} {N : Nat → Int32} {gH : Int} {gJ : Int} {ge : Int32} {gk : Int32} {gf : Int32} {gs : Int32} {gg : Int32} {gr : Int32} {RN : Nat → Int32} {gb : Int32} {rV : Nat → Int32} {rN : Nat → Int32} (hx : p.tables.exec = Jvm.exec) (hb : c.code = cL_law) (hml : c.maxLocals = 4) (hown : s.vm.findClass RL = some m.cls) (hts : ∀ w ∈ wsL_law, w.before #[Value.ref b] s = true) (hE : EV D cI cL cC s) (hbl : b < h0) (hT0 : cT h0 tm tx) (hG : tG D (hF cI cL cC gC gP gT gR mm ms mg mL mQ mZ dm ds dg dL dQ dZ om os og oL oQ oZ gB gO xk gE gV gU gN G gW gA) tx H) (hM : tG D (mF cI cL cC gC gE gW gA gT gI gS gM K F S N gH gJ ge gk gf gs gg gr RN gb rV rN) tm H) (kt2 : tm (h0 + 92) = 40) (hm00 : ∀ q : Nat, q < h0 → tm q = 0) (uqm : ∀ b c : Nat, tm b = tm c → tm b ≠ 0 → b = c) (hC0 : 0 ≤ gC.toInt) (hC4 : gC.toInt ≤ 400) (hP0 : 0 ≤ gP.toInt) (hP4 : gP.toInt ≤ 400) (hTg : gBd 400 0 255 gT) (mg0 : 0 ≤ mg.toInt) (mg4 : mg.toInt ≤ 4) (dg0 : 0 ≤ dg.toInt) (dg4 : dg.toInt ≤ 4) (og0 : 0 ≤ og.toInt) (og4 : og.toInt ≤ 4) (xk0 : 0 ≤ xk.toInt) (xk3 : xk.toInt ≤ 3) (hI0 : 0 ≤ gI.toInt) (hI4 : gI.toInt ≤ 40) (hH0 : 0 ≤ gH) (hH9 : gH ≤ 96) (hm0 : 0 ≤ gM.toInt) (hm3 : gM.toInt ≤ 3) (hO0 : okM K F S N 0 gI.toInt) (hW : swM gS K F S N gI.toInt) (hoR : othR gb gS gI K F) (hrB : relB gB gb mm gI mL mQ K F) (hoC : othC gB gO mm om mL mQ oL oQ) (heV : eqV gV rV gN rN) (hGb : (G : Int) ≤ 3072 * yi.toInt) (hy0 : 0 ≤ yi.toInt) (hy8 : yi.toInt + 8 ≤ (L : Int)) (hL : L ≤ 4096) (hS : cF h0 s.heap H locs) (hX : va_X b L xs s H) (hl : lv_has ls 4 [(3, .int yi), (2, .ref (h0 + 92)), (1, .ref h0), (0, .ref b)]) (hcl : cells ≤ 600000) (hsl : slots ≤ 7302250) (kx : ∀ (H1 : Heap) (locs1 : List Loc) (tx' : Nat → Nat) (gC' : Int32) (gP' : Int32) (gT' : Nat → Int32) (gR' : Nat → Int32) (mm' : Int32) (ms' : Int32) (mg' : Int32) (mL' : Nat → Int32) (mQ' : Nat → Int32) (mZ' : Nat → Int32) (dm' : Int32) (ds' : Int32) (dg' : Int32) (dL' : Nat → Int32) (dQ' : Nat → Int32) (dZ' : Nat → Int32) (om' : Int32) (os' : Int32) (og' : Int32) (oL' : Nat → Int32) (oQ' : Nat → Int32) (oZ' : Nat → Int32) (gB' : Int32) (gO' : Int32) (xk' : Int32) (gE' : Int32) (gV' : Nat → Int32) (gU' : Nat → Int32) (gN' : Nat → Int32) (G' : Nat) (gW' : Nat → Int32) (gA' : Nat → Int32) (gI' : Int32) (gS' : Int32) (gM' : Int32) (K' : Nat → Int32) (F' : Nat → Int32) (S' : Nat → Int32) (N' : Nat → Int32) (gH' : Int) (gJ' : Int) (ge' : Int32) (gk' : Int32) (gf' : Int32) (gs' : Int32) (gg' : Int32) (gr' : Int32) (RN' : Nat → Int32) (gb' : Int32) (rV' : Nat → Int32) (rN' : Nat → Int32), cT h0 tm tx' → tG D (hF cI cL cC gC' gP' gT' gR' mm' ms' mg' mL' mQ' mZ' dm' ds' dg' dL' dQ' dZ' om' os' og' oL' oQ' oZ' gB' gO' xk' gE' gV' gU' gN' G' gW' gA') tx' H1 → tG D (mF cI cL cC gC' gE' gW' gA' gT' gI' gS' gM' K' F' S' N' gH' gJ' ge' gk' gf' gs' gg' gr' RN' gb' rV' rN') tm H1 → (0 ≤ gC'.toInt) → (gC'.toInt ≤ 400) → (0 ≤ gP'.toInt) → (gP'.toInt ≤ 400) → (gBd 400 0 255 gT') → (0 ≤ mg'.toInt) → (mg'.toInt ≤ 4) → (0 ≤ dg'.toInt) → (dg'.toInt ≤ 4) → (0 ≤ og'.toInt) → (og'.toInt ≤ 4) → (0 ≤ xk'.toInt) → (xk'.toInt ≤ 3) → (0 ≤ gI'.toInt) → (gI'.toInt ≤ 40) → (0 ≤ gH') → (gH' ≤ 96) → (0 ≤ gM'.toInt) → (gM'.toInt ≤ 3) → (okM K' F' S' N' 0 gI'.toInt) → (swM gS' K' F' S' N' gI'.toInt) → (othR gb' gS' gI' K' F') → (relB gB' gb' mm' gI' mL' mQ' K' F') → (othC gB' gO' mm' om' mL' mQ' oL' oQ') → (eqV gV' rV' gN' rN') → (G' : Int) ≤ 3072 * yi.toInt + 24576 → cF h0 s.heap H1 locs1 → va_X b L xs s H1 → W p l e room_1 s m #[Value.ref b] below meth c H1 locs1 cells slots Q (F0 m 1409 ls [])) : W p l e room_1 s m #[Value.ref b] below meth c H locs cells slots Q (F0 m 412 ls []) := by
  refine lv_aload_n hx hb dL_law_412 rfl (lv_at hl 2 rfl) ?_
  refine lw_argC hx hb hX hl hy0 hy8 hL 1 (by decide) (by decide) dL_law_413 dL_law_414 dL_law_415 dL_law_416 dL_law_417 ?_
  refine lv_pc (pc2 := 418) rfl ?_
  refine lw_argC hx hb hX hl hy0 hy8 hL 2 (by decide) (by decide) dL_law_418 dL_law_419 dL_law_420 dL_law_421 dL_law_422 ?_
  refine lv_pc (pc2 := 423) rfl ?_
  obtain ⟨_, at_1⟩ := rcvH hG hT0.1
  have hV_5 : tG D (gF cI cL cC gC gE G gW gA) (fun q => cwA (tx q)) H := tG.vw hG (cwA_vw ⟨by omega, by omega⟩ ⟨by omega, by omega, by omega, by omega⟩ ⟨by omega, by omega⟩ ⟨by omega, by omega⟩ ⟨by omega, by omega⟩) rfl
  refine lw_calll (W.runV (As := [.int (xs (yi.toInt + 1).toNat), .int (xs (yi.toInt + 2).toNat)]) (rest := []) ⟨hx, hb, hml, hown, hts⟩ (s_X9_has l D (fun q => cwA (tx q)) cI cL cC gC gE G gW gA h0 (xs (yi.toInt + 1).toNat) (xs (yi.toInt + 2).toNat) (by show cwA (tx h0) = 1; rw [hT0.1]; rfl)) (cwV 2 hts gu_L_X9_has rfl rfl rfl (by decide +kernel) ⟨Nat.le_of_ble_eq_true rfl, Nat.le_of_ble_eq_true rfl⟩) (tP_V hV_5 hE at_1 rfl) rfl rfl hl.1 rfl (lv_room (Nat.le_of_ble_eq_true rfl)) dL_law_423 ⟨hcl, hsl⟩) hS rfl (fun q h => by show cwA (tx q) = 0; rw [hT0.2.1 q h]; rfl) (fun r_2 H locs hp_3 hV_6 hS o_4 => ?_)
  replace hX := hX.kept (o_4 b (by show wr0 (cwA (tx b)) = false; rw [hT0.2.1 b hbl]; rfl))
  replace hM := tG.keptW hM o_4 (fun q h => by show wr0 (cwA (tx q)) = false; rw [hT0.2.2.1 q h]; rfl)
  replace hG := tG.kept0 hG o_4
  clear hV_5 hV_6
  refine lv_pop2_2 hx hb dL_law_426 rfl ?_
  refine lv_aload_n hx hb dL_law_427 rfl (lv_at hl 1 rfl) ?_
  refine lw_argC hx hb hX hl hy0 hy8 hL 1 (by decide) (by decide) dL_law_428 dL_law_429 dL_law_430 dL_law_431 dL_law_432 ?_
  refine lv_pc (pc2 := 433) rfl ?_
  refine lv_pc (pc2 := 433) rfl ?_
  refine lw_argC hx hb hX hl hy0 hy8 hL 2 (by decide) (by decide) dL_law_433 dL_law_434 dL_law_435 dL_law_436 dL_law_437 ?_
  refine lv_pc (pc2 := 438) rfl ?_
  obtain ⟨_, at_7⟩ := rcv40 hM kt2
  refine lw_calll (W.runV (As := [.int (xs (yi.toInt + 1).toNat), .int (xs (yi.toInt + 2).toNat)]) (rest := []) ⟨hx, hb, hml, hown, hts⟩ (m_X10_has l D tm cI cL cC gC gE gW gA gT gI gS gM K F S N gH gJ ge gk gf gs gg gr RN gb rV rN (h0 + 92) (xs (yi.toInt + 1).toNat) (xs (yi.toInt + 2).toNat) uqm hC0 hC4 hI0 hI4 hH0 hH9 hm0 hm3 hO0 hW hoR kt2) (cwV 2 hts gu_L_X10_has rfl rfl rfl (by decide +kernel) ⟨Nat.le_of_ble_eq_true rfl, Nat.le_of_ble_eq_true rfl⟩) (tP_V hM hE at_7 rfl) rfl rfl hl.1 rfl (lv_room (Nat.le_of_ble_eq_true rfl)) dL_law_438 ⟨hcl, hsl⟩) hS rfl hm00 (fun r_8 H locs hp_9 hM hS o_10 => ?_)
  replace hX := hX.kept (o_10 b (by rw [hm00 b hbl]; rfl))
  replace hG := tG.keptW hG o_10 (fun q h => by rw [hT0.2.2.2.1 q h]; rfl)
  refine lv_pop2_2 hx hb dL_law_441 rfl ?_
  refine lv_goto (tgt := 1409) hx hb dL_law_442 (by decide) ?_
  exact kx H locs tx _ _ _ _ _ _ _ _ _ _ _ _ _ _ _ _ _ _ _ _ _ _ _ _ _ _ _ _ _ _ _ _ _ _ _ _ _ _ _ _ _ _ _ _ _ _ _ _ _ _ _ hT0 hG hM hC0 hC4 hP0 hP4 hTg mg0 mg4 dg0 dg4 og0 og4 xk0 xk3 hI0 hI4 hH0 hH9 hm0 hm3 hO0 hW hoR (relB.step hrB smC.rf smR.rf) hoC heV (by omega) hS hX
theorem dL_law_445 : decode cL_law 445 = .ok (.aload_n 1, 1) := by decide +kernel
theorem dL_law_446 : decode cL_law 446 = .ok (.aload_n 0, 1) := by decide +kernel
theorem dL_law_447 : decode cL_law 447 = .ok (.iload_n 3, 1) := by decide +kernel
theorem dL_law_448 : decode cL_law 448 = .ok (.iconst 1, 1) := by decide +kernel
theorem dL_law_449 : decode cL_law 449 = .ok (.iadd, 1) := by decide +kernel
theorem dL_law_450 : decode cL_law 450 = .ok (.iaload, 1) := by decide +kernel
theorem dL_law_451 : decode cL_law 451 = .ok (.invokevirtual 57, 3) := by decide +kernel
theorem dL_law_454 : decode cL_law 454 = .ok (.pop2, 1) := by decide +kernel
theorem dL_law_455 : decode cL_law 455 = .ok (.aload_n 2, 1) := by decide +kernel
theorem dL_law_456 : decode cL_law 456 = .ok (.aload_n 0, 1) := by decide +kernel
theorem dL_law_457 : decode cL_law 457 = .ok (.iload_n 3, 1) := by decide +kernel
theorem dL_law_458 : decode cL_law 458 = .ok (.iconst 1, 1) := by decide +kernel
theorem dL_law_459 : decode cL_law 459 = .ok (.iadd, 1) := by decide +kernel
theorem dL_law_460 : decode cL_law 460 = .ok (.iaload, 1) := by decide +kernel
theorem dL_law_461 : decode cL_law 461 = .ok (.invokevirtual 61, 3) := by decide +kernel
theorem dL_law_464 : decode cL_law 464 = .ok (.pop2, 1) := by decide +kernel
theorem dL_law_465 : decode cL_law 465 = .ok (.goto 944, 3) := by decide +kernel
set_option maxRecDepth 20000 in
theorem gu_L_X9_flow : GoodIn wsL_law (wsV RL 57 RX9 yX9_flow uX9_flow) := goodIn_r _ [551, 552, 553, 2, 554, 400, 274, 2, 527, 401, 402, 403, 35, 428, 555, 528, 275, 404, 23, 20, 330, 1064, 1065, 1066, 1067, 1068, 1069, 1070, 1071, 1072, 1073, 1074, 1075, 1076, 1077, 1078, 1079, 1080, 1081, 1130, 1131, 1132, 1133, 1134, 1135, 1136, 1137, 1122, 1123, 1124, 1125, 1126, 1127] rfl (by decide +kernel)
set_option maxRecDepth 20000 in
theorem gu_L_X10_flow : GoodIn wsL_law (wsV RL 61 RX10 yX10_flow uX10_flow) := goodIn_r _ [556, 557, 558, 5, 559, 410, 182, 183, 5, 370, 546, 365, 142, 545, 184, 1082, 1083, 1084, 1085, 1086, 1087, 1088, 1089, 1090, 1091, 1092, 1093, 1094, 1095, 1096, 1097, 1098, 1099, 1100, 1101, 1102, 1103, 1104, 1105, 1106, 1107, 1108, 1109, 1110, 1111, 1112, 1113, 1114, 1115, 1116, 1117] rfl (by decide +kernel)
set_option maxHeartbeats 4000000 in
set_option maxRecDepth 100000 in
theorem lc_9 {p : Program} {l : Launch} {e : Env} {s : State} {m : MethodId} {below : List Frame} {meth : Method} {c : Code} {cells slots : Nat} {Q : State → Prop} {b h0 L : Nat} {xs : Nat → Int32} {yi : Int32} {D : va_G} {cI cL cC : ClassId} {tx tm : Nat → Nat} {H : Heap} {locs : List Loc} {ls : Array Slot} {gC : Int32} {gP : Int32} {gT : Nat → Int32} {gR : Nat → Int32} {mm : Int32} {ms : Int32} {mg : Int32} {mL : Nat → Int32} {mQ : Nat → Int32} {mZ : Nat → Int32} {dm : Int32} {ds : Int32} {dg : Int32} {dL : Nat → Int32} {dQ : Nat → Int32} {dZ : Nat → Int32} {om : Int32} {os : Int32} {og : Int32} {oL : Nat → Int32} {oQ : Nat → Int32} {oZ : Nat → Int32} {gB : Int32} {gO : Int32} {xk : Int32} {gE : Int32} {gV : Nat → Int32} {gU : Nat → Int32} {gN : Nat → Int32} {G : Nat} {gW : Nat → Int32} {gA : Nat → Int32} {gI : Int32} {gS : Int32} {gM : Int32} {K : Nat → Int32} {F : Nat → Int32} {S : Nat → Int32} {N : Nat → Int32} {gH : Int} {gJ : Int} {ge : Int32} {gk : Int32} {gf : Int32} {gs : Int32} {gg : Int32} {gr : Int32} {RN : Nat → Int32} {gb : Int32} {rV : Nat → Int32} {rN : Nat → Int32} (hx : p.tables.exec = Jvm.exec) (hb : c.code = cL_law) (hml : c.maxLocals = 4) (hown : s.vm.findClass RL = some m.cls) (hts : ∀ w ∈ wsL_law, w.before #[Value.ref b] s = true) (hE : EV D cI cL cC s) (hbl : b < h0) (hT0 : cT h0 tm tx) (hG : tG D (hF cI cL cC gC gP gT gR mm ms mg mL mQ mZ dm ds dg dL dQ dZ om os og oL oQ oZ gB gO xk gE gV gU gN G gW gA) tx H) (hM : tG D (mF cI cL cC gC gE gW gA gT gI gS gM K F S N gH gJ ge gk gf gs gg gr RN gb rV rN) tm H) (kt2 : tm (h0 + 92) = 40) (hm00 : ∀ q : Nat, q < h0 → tm q = 0) (uqm : ∀ b c : Nat, tm b = tm c → tm b ≠ 0 → b = c) (hC0 : 0 ≤ gC.toInt) (hC4 : gC.toInt ≤ 400) (hP0 : 0 ≤ gP.toInt) (hP4 : gP.toInt ≤ 400) (hTg : gBd 400 0 255 gT) (mg0 : 0 ≤ mg.toInt) (mg4 : mg.toInt ≤ 4) (dg0 : 0 ≤ dg.toInt) (dg4 : dg.toInt ≤ 4) (og0 : 0 ≤ og.toInt) (og4 : og.toInt ≤ 4) (xk0 : 0 ≤ xk.toInt) (xk3 : xk.toInt ≤ 3) (hI0 : 0 ≤ gI.toInt) (hI4 : gI.toInt ≤ 40) (hH0 : 0 ≤ gH) (hH9 : gH ≤ 96) (hm0 : 0 ≤ gM.toInt) (hm3 : gM.toInt ≤ 3) (hO0 : okM K F S N 0 gI.toInt) (hW : swM gS K F S N gI.toInt) (hoR : othR gb gS gI K F) (hrB : relB gB gb mm gI mL mQ K F) (hoC : othC gB gO mm om mL mQ oL oQ) (heV : eqV gV rV gN rN) (hGb : (G : Int) ≤ 3072 * yi.toInt) (hy0 : 0 ≤ yi.toInt) (hy8 : yi.toInt + 8 ≤ (L : Int)) (hL : L ≤ 4096) (hS : cF h0 s.heap H locs) (hX : va_X b L xs s H) (hl : lv_has ls 4 [(3, .int yi), (2, .ref (h0 + 92)), (1, .ref h0), (0, .ref b)]) (hcl : cells ≤ 600000) (hsl : slots ≤ 7302250) (kx : ∀ (H1 : Heap) (locs1 : List Loc) (tx' : Nat → Nat) (gC' : Int32) (gP' : Int32) (gT' : Nat → Int32) (gR' : Nat → Int32) (mm' : Int32) (ms' : Int32) (mg' : Int32) (mL' : Nat → Int32) (mQ' : Nat → Int32) (mZ' : Nat → Int32) (dm' : Int32) (ds' : Int32) (dg' : Int32) (dL' : Nat → Int32) (dQ' : Nat → Int32) (dZ' : Nat → Int32) (om' : Int32) (os' : Int32) (og' : Int32) (oL' : Nat → Int32) (oQ' : Nat → Int32) (oZ' : Nat → Int32) (gB' : Int32) (gO' : Int32) (xk' : Int32) (gE' : Int32) (gV' : Nat → Int32) (gU' : Nat → Int32) (gN' : Nat → Int32) (G' : Nat) (gW' : Nat → Int32) (gA' : Nat → Int32) (gI' : Int32) (gS' : Int32) (gM' : Int32) (K' : Nat → Int32) (F' : Nat → Int32) (S' : Nat → Int32) (N' : Nat → Int32) (gH' : Int) (gJ' : Int) (ge' : Int32) (gk' : Int32) (gf' : Int32) (gs' : Int32) (gg' : Int32) (gr' : Int32) (RN' : Nat → Int32) (gb' : Int32) (rV' : Nat → Int32) (rN' : Nat → Int32), cT h0 tm tx' → tG D (hF cI cL cC gC' gP' gT' gR' mm' ms' mg' mL' mQ' mZ' dm' ds' dg' dL' dQ' dZ' om' os' og' oL' oQ' oZ' gB' gO' xk' gE' gV' gU' gN' G' gW' gA') tx' H1 → tG D (mF cI cL cC gC' gE' gW' gA' gT' gI' gS' gM' K' F' S' N' gH' gJ' ge' gk' gf' gs' gg' gr' RN' gb' rV' rN') tm H1 → (0 ≤ gC'.toInt) → (gC'.toInt ≤ 400) → (0 ≤ gP'.toInt) → (gP'.toInt ≤ 400) → (gBd 400 0 255 gT') → (0 ≤ mg'.toInt) → (mg'.toInt ≤ 4) → (0 ≤ dg'.toInt) → (dg'.toInt ≤ 4) → (0 ≤ og'.toInt) → (og'.toInt ≤ 4) → (0 ≤ xk'.toInt) → (xk'.toInt ≤ 3) → (0 ≤ gI'.toInt) → (gI'.toInt ≤ 40) → (0 ≤ gH') → (gH' ≤ 96) → (0 ≤ gM'.toInt) → (gM'.toInt ≤ 3) → (okM K' F' S' N' 0 gI'.toInt) → (swM gS' K' F' S' N' gI'.toInt) → (othR gb' gS' gI' K' F') → (relB gB' gb' mm' gI' mL' mQ' K' F') → (othC gB' gO' mm' om' mL' mQ' oL' oQ') → (eqV gV' rV' gN' rN') → (G' : Int) ≤ 3072 * yi.toInt + 24576 → cF h0 s.heap H1 locs1 → va_X b L xs s H1 → W p l e room_1 s m #[Value.ref b] below meth c H1 locs1 cells slots Q (F0 m 1409 ls [])) : W p l e room_1 s m #[Value.ref b] below meth c H locs cells slots Q (F0 m 445 ls []) := by
  refine lv_aload_n hx hb dL_law_445 rfl (lv_at hl 2 rfl) ?_
  refine lw_argC hx hb hX hl hy0 hy8 hL 1 (by decide) (by decide) dL_law_446 dL_law_447 dL_law_448 dL_law_449 dL_law_450 ?_
  refine lv_pc (pc2 := 451) rfl ?_
  obtain ⟨_, at_1⟩ := rcvH hG hT0.1
  have hV_5 : tG D (gF cI cL cC gC gE G gW gA) (fun q => cwA (tx q)) H := tG.vw hG (cwA_vw ⟨by omega, by omega⟩ ⟨by omega, by omega, by omega, by omega⟩ ⟨by omega, by omega⟩ ⟨by omega, by omega⟩ ⟨by omega, by omega⟩) rfl
  refine lw_calll (W.runV (As := [.int (xs (yi.toInt + 1).toNat)]) (rest := []) ⟨hx, hb, hml, hown, hts⟩ (s_X9_flow l D (fun q => cwA (tx q)) cI cL cC gC gE G gW gA h0 (xs (yi.toInt + 1).toNat) (by show cwA (tx h0) = 1; rw [hT0.1]; rfl)) (cwV 1 hts gu_L_X9_flow rfl rfl rfl (by decide +kernel) ⟨Nat.le_of_ble_eq_true rfl, Nat.le_of_ble_eq_true rfl⟩) (tP_V hV_5 hE at_1 rfl) rfl rfl hl.1 rfl (lv_room (Nat.le_of_ble_eq_true rfl)) dL_law_451 ⟨hcl, hsl⟩) hS rfl (fun q h => by show cwA (tx q) = 0; rw [hT0.2.1 q h]; rfl) (fun r_2 H locs hp_3 hV_6 hS o_4 => ?_)
  replace hX := hX.kept (o_4 b (by show wr0 (cwA (tx b)) = false; rw [hT0.2.1 b hbl]; rfl))
  replace hM := tG.keptW hM o_4 (fun q h => by show wr0 (cwA (tx q)) = false; rw [hT0.2.2.1 q h]; rfl)
  replace hG := tG.kept0 hG o_4
  clear hV_5 hV_6
  refine lv_pop2_2 hx hb dL_law_454 rfl ?_
  refine lv_aload_n hx hb dL_law_455 rfl (lv_at hl 1 rfl) ?_
  refine lw_argC hx hb hX hl hy0 hy8 hL 1 (by decide) (by decide) dL_law_456 dL_law_457 dL_law_458 dL_law_459 dL_law_460 ?_
  refine lv_pc (pc2 := 461) rfl ?_
  obtain ⟨_, at_7⟩ := rcv40 hM kt2
  refine lw_calll (W.runV (As := [.int (xs (yi.toInt + 1).toNat)]) (rest := []) ⟨hx, hb, hml, hown, hts⟩ (m_X10_flow l D tm cI cL cC gC gE gW gA gT gI gS gM K F S N gH gJ ge gk gf gs gg gr RN gb rV rN (h0 + 92) (xs (yi.toInt + 1).toNat) uqm hC0 hC4 hI0 hI4 hH0 hH9 hm0 hm3 hO0 hW hoR kt2) (cwV 1 hts gu_L_X10_flow rfl rfl rfl (by decide +kernel) ⟨Nat.le_of_ble_eq_true rfl, Nat.le_of_ble_eq_true rfl⟩) (tP_V hM hE at_7 rfl) rfl rfl hl.1 rfl (lv_room (Nat.le_of_ble_eq_true rfl)) dL_law_461 ⟨hcl, hsl⟩) hS rfl hm00 (fun r_8 H locs hp_9 hM hS o_10 => ?_)
  replace hX := hX.kept (o_10 b (by rw [hm00 b hbl]; rfl))
  replace hG := tG.keptW hG o_10 (fun q h => by rw [hT0.2.2.2.1 q h]; rfl)
  refine lv_pc (pc2 := 464) rfl ?_
  refine lv_pop2_2 hx hb dL_law_464 rfl ?_
  refine lv_goto (tgt := 1409) hx hb dL_law_465 (by decide) ?_
  exact kx H locs tx _ _ _ _ _ _ _ _ _ _ _ _ _ _ _ _ _ _ _ _ _ _ _ _ _ _ _ _ _ _ _ _ _ _ _ _ _ _ _ _ _ _ _ _ _ _ _ _ _ _ _ hT0 hG hM hC0 hC4 hP0 hP4 hTg mg0 mg4 dg0 dg4 og0 og4 xk0 xk3 hI0 hI4 hH0 hH9 hm0 hm3 hO0 hW hoR (relB.step hrB smC.rf smR.rf) hoC heV (by omega) hS hX
