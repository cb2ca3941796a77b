theorem dL_law_468 : decode cL_law 468 = .ok (.aload_n 1, 1) := by decide +kernel
theorem dL_law_469 : decode cL_law 469 = .ok (.aload_n 0, 1) := by decide +kernel
theorem dL_law_470 : decode cL_law 470 = .ok (.iload_n 3, 1) := by decide +kernel
theorem dL_law_471 : decode cL_law 471 = .ok (.iconst 1, 1) := by decide +kernel
theorem dL_law_472 : decode cL_law 472 = .ok (.iadd, 1) := by decide +kernel
theorem dL_law_473 : decode cL_law 473 = .ok (.iaload, 1) := by decide +kernel
theorem dL_law_474 : decode cL_law 474 = .ok (.aload_n 0, 1) := by decide +kernel
theorem dL_law_475 : decode cL_law 475 = .ok (.iload_n 3, 1) := by decide +kernel
theorem dL_law_476 : decode cL_law 476 = .ok (.iconst 2, 1) := by decide +kernel
theorem dL_law_477 : decode cL_law 477 = .ok (.iadd, 1) := by decide +kernel
theorem dL_law_478 : decode cL_law 478 = .ok (.iaload, 1) := by decide +kernel
theorem dL_law_479 : decode cL_law 479 = .ok (.invokevirtual 62, 3) := by decide +kernel
theorem dL_law_482 : decode cL_law 482 = .ok (.pop, 1) := by decide +kernel
theorem dL_law_483 : decode cL_law 483 = .ok (.aload_n 2, 1) := by decide +kernel
theorem dL_law_484 : decode cL_law 484 = .ok (.aload_n 0, 1) := by decide +kernel
theorem dL_law_485 : decode cL_law 485 = .ok (.iload_n 3, 1) := by decide +kernel
theorem dL_law_486 : decode cL_law 486 = .ok (.iconst 1, 1) := by decide +kernel
theorem dL_law_487 : decode cL_law 487 = .ok (.iadd, 1) := by decide +kernel
theorem dL_law_488 : decode cL_law 488 = .ok (.iaload, 1) := by decide +kernel
theorem dL_law_489 : decode cL_law 489 = .ok (.aload_n 0, 1) := by decide +kernel
theorem dL_law_490 : decode cL_law 490 = .ok (.iload_n 3, 1) := by decide +kernel
theorem dL_law_491 : decode cL_law 491 = .ok (.iconst 2, 1) := by decide +kernel
theorem dL_law_492 : decode cL_law 492 = .ok (.iadd, 1) := by decide +kernel
theorem dL_law_493 : decode cL_law 493 = .ok (.iaload, 1) := by decide +kernel
theorem dL_law_494 : decode cL_law 494 = .ok (.invokevirtual 65, 3) := by decide +kernel
theorem dL_law_497 : decode cL_law 497 = .ok (.pop, 1) := by decide +kernel
theorem dL_law_498 : decode cL_law 498 = .ok (.goto 911, 3) := by decide +kernel
set_option maxRecDepth 20000 in
theorem gu_L_X9_gate : GoodIn wsL_law (wsV RL 62 RX9 yX9_gate uX9_gate) := goodIn_r _ [560, 561, 562, 2, 563, 565, 487, 2, 168, 169, 566, 567, 568, 35, 564, 488, 170, 569, 23, 20, 570, 1064, 1065, 1066, 1067, 1068, 1069, 1070, 1071, 1072, 1073, 1074, 1075, 1076, 1077, 1078, 1079, 1080, 1081, 1130, 1131, 1132, 1133, 1134, 1135, 1136, 1137, 1122, 1123, 1124, 1125, 1126, 1127] rfl (by decide +kernel)
set_option maxRecDepth 20000 in
theorem gu_L_X10_gate : GoodIn wsL_law (wsV RL 65 RX10 yX10_gate uX10_gate) := goodIn_r _ [571, 572, 573, 5, 574, 575, 182, 183, 5, 514, 370, 576, 577, 578, 142, 184, 579, 365, 137, 1082, 1083, 1084, 1085, 1086, 1087, 1088, 1089, 1090, 1091, 1092, 1093, 1094, 1095, 1096, 1097, 1098, 1099, 1100, 1101, 1102, 1103, 1104, 1105, 1106, 1107, 1108, 1109, 1110, 1111, 1112, 1113, 1114, 1115, 1116, 1117] rfl (by decide +kernel)
set_option maxHeartbeats 4000000 in
set_option maxRecDepth 100000 in
theorem lc_10 {p : Program} {l : Launch} {e : Env} {s : State} {m : MethodId} {below : List Frame} {meth : Method} {c : Code} {cells slots : Nat} {Q : State → Prop} {b h0 L : Nat} {xs : Nat → Int32} {yi : Int32} {D : va_G} {cI cL cC : ClassId} {tx tm : Nat → Nat} {H : Heap} {locs : List Loc} {ls : Array Slot} {gC : Int32} {gP : Int32} {gT : Nat → Int32} {gR : Nat → Int32} {mm : Int32} {ms : Int32} {mg : Int32} {mL : Nat → Int32} {mQ : Nat → Int32} {mZ : Nat → Int32} {dm : Int32} {ds : Int32} {dg : Int32} {dL : Nat → Int32} {dQ : Nat → Int32} {dZ : Nat → Int32} {om : Int32} {os : Int32} {og : Int32} {oL : Nat → Int32} {oQ : Nat → Int32} {oZ : Nat → Int32} {gB : Int32} {gO : Int32} {xk : Int32} {gE : Int32} {gV : Nat → Int32} {gU : Nat → Int32} {gN : Nat → Int32} {G : Nat} {gW : Nat → Int32} {gA : Nat → Int32} {gI : Int32} {gS : Int32} {gM : Int32} {K : Nat → Int32} {F : Nat → Int32} {S : Nat → Int32} {N : Nat → Int32} {gH : Int} {gJ : Int} {ge : Int32} {gk : Int32} {gf : Int32} {gs : Int32} {gg : Int32} {gr : Int32} {RN : Nat → Int32} {gb : Int32} {rV : Nat → Int32} {rN : Nat → Int32} (hx : p.tables.exec = Jvm.exec) (hb : c.code = cL_law) (hml : c.maxLocals = 4) (hown : s.vm.findClass RL = some m.cls) (hts : ∀ w ∈ wsL_law, w.before #[Value.ref b] s = true) (hE : EV D cI cL cC s) (hbl : b < h0) (hT0 : cT h0 tm tx) (hG : tG D (hF cI cL cC gC gP gT gR mm ms mg mL mQ mZ dm ds dg dL dQ dZ om os og oL oQ oZ gB gO xk gE gV gU gN G gW gA) tx H) (hM : tG D (mF cI cL cC gC gE gW gA gT gI gS gM K F S N gH gJ ge gk gf gs gg gr RN gb rV rN) tm H) (kt2 : tm (h0 + 92) = 40) (hm00 : ∀ q : Nat, q < h0 → tm q = 0) (uqm : ∀ b c : Nat, tm b = tm c → tm b ≠ 0 → b = c) (hC0 : 0 ≤ gC.toInt) (hC4 : gC.toInt ≤ 400) (hP0 : 0 ≤ gP.toInt) (hP4 : gP.toInt ≤ 400) (hTg : gBd 400 0 255 gT) (mg0 : 0 ≤ mg.toInt) (mg4 : mg.toInt ≤ 4) (dg0 : 0 ≤ dg.toInt) (dg4 : dg.toInt ≤ 4) (og0 : 0 ≤ og.toInt) (og4 : og.toInt ≤ 4) (xk0 : 0 ≤ xk.toInt) (xk3 : xk.toInt ≤ 3) (hI0 : 0 ≤ gI.toInt) (hI4 : gI.toInt ≤ 40) (hH0 : 0 ≤ gH) (hH9 : gH ≤ 96) (hm0 : 0 ≤ gM.toInt) (hm3 : gM.toInt ≤ 3) (hO0 : okM K F S N 0 gI.toInt) (hW : swM gS K F S N gI.toInt) (hoR : othR gb gS gI K F) (hrB : relB gB gb mm gI mL mQ K F) (hoC : othC gB gO mm om mL mQ oL oQ) (heV : eqV gV rV gN rN) (hGb : (G : Int) ≤ 3072 * yi.toInt) (hy0 : 0 ≤ yi.toInt) (hy8 : yi.toInt + 8 ≤ (L : Int)) (hL : L ≤ 4096) (hS : cF h0 s.heap H locs) (hX : va_X b L xs s H) (hl : lv_has ls 4 [(3, .int yi), (2, .ref (h0 + 92)), (1, .ref h0), (0, .ref b)]) (hcl : cells ≤ 600000) (hsl : slots ≤ 7302250) (kx : ∀ (H1 : Heap) (locs1 : List Loc) (tx' : Nat → Nat) (gC' : Int32) (gP' : Int32) (gT' : Nat → Int32) (gR' : Nat → Int32) (mm' : Int32) (ms' : Int32) (mg' : Int32) (mL' : Nat → Int32) (mQ' : Nat → Int32) (mZ' : Nat → Int32) (dm' : Int32) (ds' : Int32) (dg' : Int32) (dL' : Nat → Int32) (dQ' : Nat → Int32) (dZ' : Nat → Int32) (om' : Int32) (os' : Int32) (og' : Int32) (oL' : Nat → Int32) (oQ' : Nat → Int32) (oZ' : Nat → Int32) (gB' : Int32) (gO' : Int32) (xk' : Int32) (gE' : Int32) (gV' : Nat → Int32) (gU' : Nat → Int32) (gN' : Nat → Int32) (G' : Nat) (gW' : Nat → Int32) (gA' : Nat → Int32) (gI' : Int32) (gS' : Int32) (gM' : Int32) (K' : Nat → Int32) (F' : Nat → Int32) (S' : Nat → Int32) (N' : Nat → Int32) (gH' : Int) (gJ' : Int) (ge' : Int32) (gk' : Int32) (gf' : Int32) (gs' : Int32) (gg' : Int32) (gr' : Int32) (RN' : Nat → Int32) (gb' : Int32) (rV' : Nat → Int32) (rN' : Nat → Int32), cT h0 tm tx' → tG D (hF cI cL cC gC' gP' gT' gR' mm' ms' mg' mL' mQ' mZ' dm' ds' dg' dL' dQ' dZ' om' os' og' oL' oQ' oZ' gB' gO' xk' gE' gV' gU' gN' G' gW' gA') tx' H1 → tG D (mF cI cL cC gC' gE' gW' gA' gT' gI' gS' gM' K' F' S' N' gH' gJ' ge' gk' gf' gs' gg' gr' RN' gb' rV' rN') tm H1 → (0 ≤ gC'.toInt) → (gC'.toInt ≤ 400) → (0 ≤ gP'.toInt) → (gP'.toInt ≤ 400) → (gBd 400 0 255 gT') → (0 ≤ mg'.toInt) → (mg'.toInt ≤ 4) → (0 ≤ dg'.toInt) → (dg'.toInt ≤ 4) → (0 ≤ og'.toInt) → (og'.toInt ≤ 4) → (0 ≤ xk'.toInt) → (xk'.toInt ≤ 3) → (0 ≤ gI'.toInt) → (gI'.toInt ≤ 40) → (0 ≤ gH') → (gH' ≤ 96) → (0 ≤ gM'.toInt) → (gM'.toInt ≤ 3) → (okM K' F' S' N' 0 gI'.toInt) → (swM gS' K' F' S' N' gI'.toInt) → (othR gb' gS' gI' K' F') → (relB gB' gb' mm' gI' mL' mQ' K' F') → (othC gB' gO' mm' om' mL' mQ' oL' oQ') → (eqV gV' rV' gN' rN') → (G' : Int) ≤ 3072 * yi.toInt + 24576 → cF h0 s.heap H1 locs1 → va_X b L xs s H1 → W p l e room_1 s m #[Value.ref b] below meth c H1 locs1 cells slots Q (F0 m 1409 ls [])) : W p l e room_1 s m #[Value.ref b] below meth c H locs cells slots Q (F0 m 468 ls []) := by
  refine lv_aload_n hx hb dL_law_468 rfl (lv_at hl 2 rfl) ?_
  refine lw_argC hx hb hX hl hy0 hy8 hL 1 (by decide) (by decide) dL_law_469 dL_law_470 dL_law_471 dL_law_472 dL_law_473 ?_
  refine lv_pc (pc2 := 474) rfl ?_
  refine lw_argC hx hb hX hl hy0 hy8 hL 2 (by decide) (by decide) dL_law_474 dL_law_475 dL_law_476 dL_law_477 dL_law_478 ?_
  refine lv_pc (pc2 := 479) rfl ?_
  obtain ⟨_, at_1⟩ := rcvH hG hT0.1
  have hV_5 : tG D (gF cI cL cC gC gE G gW gA) (fun q => cwA (tx q)) H := tG.vw hG (cwA_vw ⟨by omega, by omega⟩ ⟨by omega, by omega, by omega, by omega⟩ ⟨by omega, by omega⟩ ⟨by omega, by omega⟩ ⟨by omega, by omega⟩) rfl
  refine lw_calli (W.runV (As := [.int (xs (yi.toInt + 1).toNat), .int (xs (yi.toInt + 2).toNat)]) (rest := []) ⟨hx, hb, hml, hown, hts⟩ (s_X9_gate l D (fun q => cwA (tx q)) cI cL cC gC gE G gW gA h0 (xs (yi.toInt + 1).toNat) (xs (yi.toInt + 2).toNat) (by show cwA (tx h0) = 1; rw [hT0.1]; rfl)) (cwV 2 hts gu_L_X9_gate rfl rfl rfl (by decide +kernel) ⟨Nat.le_of_ble_eq_true rfl, Nat.le_of_ble_eq_true rfl⟩) (tP_V hV_5 hE at_1 rfl) rfl rfl hl.1 rfl (lv_room (Nat.le_of_ble_eq_true rfl)) dL_law_479 ⟨hcl, hsl⟩) hS rfl (fun q h => by show cwA (tx q) = 0; rw [hT0.2.1 q h]; rfl) (fun r_2 H locs hp_3 hV_6 hS o_4 => ?_)
  replace hX := hX.kept (o_4 b (by show wrC (cwA (tx b)) = false; rw [hT0.2.1 b hbl]; rfl))
  replace hM := tG.keptW hM o_4 (fun q h => by show wrC (cwA (tx q)) = false; rw [hT0.2.2.1 q h]; rfl)
  replace hG : tG D (hF cI cL cC gC gP gT gR mm ms mg mL mQ mZ dm ds dg dL dQ dZ om os og oL oQ oZ gB gO xk gE gV gU gN G gW gA) tx H := tG.unvw hG hV_6 o_4 rfl (cwA_wrC_b (G := G)) (cwA_wrC_o (by omega))
  clear hV_5 hV_6
  refine lv_pop hx hb dL_law_482 rfl ?_
  refine lv_aload_n hx hb dL_law_483 rfl (lv_at hl 1 rfl) ?_
  refine lw_argC hx hb hX hl hy0 hy8 hL 1 (by decide) (by decide) dL_law_484 dL_law_485 dL_law_486 dL_law_487 dL_law_488 ?_
  refine lv_pc (pc2 := 489) rfl ?_
  refine lv_pc (pc2 := 489) rfl ?_
  refine lw_argC hx hb hX hl hy0 hy8 hL 2 (by decide) (by decide) dL_law_489 dL_law_490 dL_law_491 dL_law_492 dL_law_493 ?_
  refine lv_pc (pc2 := 494) rfl ?_
  obtain ⟨_, at_7⟩ := rcv40 hM kt2
  refine lw_calli (W.runV (As := [.int (xs (yi.toInt + 1).toNat), .int (xs (yi.toInt + 2).toNat)]) (rest := []) ⟨hx, hb, hml, hown, hts⟩ (m_X10_gate l D tm cI cL cC gC gE gW gA gT gI gS gM K F S N gH gJ ge gk gf gs gg gr RN gb rV rN (h0 + 92) (xs (yi.toInt + 1).toNat) (xs (yi.toInt + 2).toNat) uqm hC0 hC4 hI0 hI4 hH0 hH9 hm0 hm3 hO0 hW hoR kt2) (cwV 2 hts gu_L_X10_gate rfl rfl rfl (by decide +kernel) ⟨Nat.le_of_ble_eq_true rfl, Nat.le_of_ble_eq_true rfl⟩) (tP_V hM hE at_7 rfl) rfl rfl hl.1 rfl (lv_room (Nat.le_of_ble_eq_true rfl)) dL_law_494 ⟨hcl, hsl⟩) hS rfl hm00 (fun r_8 H locs hp_9 hM hS o_10 => ?_)
  replace hX := hX.kept (o_10 b (by rw [hm00 b hbl]; rfl))
  replace hG := tG.keptW hG o_10 (fun q h => by rw [hT0.2.2.2.1 q h]; rfl)
  refine lv_pop hx hb dL_law_497 rfl ?_
  refine lv_goto (tgt := 1409) hx hb dL_law_498 (by decide) ?_
  exact kx H locs tx _ _ _ _ _ _ _ _ _ _ _ _ _ _ _ _ _ _ _ _ _ _ _ _ _ _ _ _ _ _ _ _ _ _ _ _ _ _ _ _ _ _ _ _ _ _ _ _ _ _ _ hT0 hG hM hC0 hC4 hP0 hP4 hTg mg0 mg4 dg0 dg4 og0 og4 xk0 xk3 hI0 hI4 hH0 hH9 hm0 hm3 hO0 hW hoR (relB.step hrB smC.rf smR.rf) hoC heV (by omega) hS hX
theorem dL_law_501 : decode cL_law 501 = .ok (.aload_n 1, 1) := by decide +kernel
theorem dL_law_502 : decode cL_law 502 = .ok (.aload_n 0, 1) := by decide +kernel
theorem dL_law_503 : decode cL_law 503 = .ok (.iload_n 3, 1) := by decide +kernel
theorem dL_law_504 : decode cL_law 504 = .ok (.iconst 1, 1) := by decide +kernel
theorem dL_law_505 : decode cL_law 505 = .ok (.iadd, 1) := by decide +kernel
theorem dL_law_506 : decode cL_law 506 = .ok (.iaload, 1) := by decide +kernel
theorem dL_law_507 : decode cL_law 507 = .ok (.invokevirtual 66, 3) := by decide +kernel
theorem dL_law_510 : decode cL_law 510 = .ok (.pop2, 1) := by decide +kernel
theorem dL_law_511 : decode cL_law 511 = .ok (.aload_n 2, 1) := by decide +kernel
theorem dL_law_512 : decode cL_law 512 = .ok (.aload_n 0, 1) := by decide +kernel
theorem dL_law_513 : decode cL_law 513 = .ok (.iload_n 3, 1) := by decide +kernel
theorem dL_law_514 : decode cL_law 514 = .ok (.iconst 1, 1) := by decide +kernel
theorem dL_law_515 : decode cL_law 515 = .ok (.iadd, 1) := by decide +kernel
theorem dL_law_516 : decode cL_law 516 = .ok (.iaload, 1) := by decide +kernel
theorem dL_law_517 : decode cL_law 517 = .ok (.invokevirtual 69, 3) := by decide +kernel
theorem dL_law_520 : decode cL_law 520 = .ok (.pop2, 1) := by decide +kernel
theorem dL_law_521 : decode cL_law 521 = .ok (.goto 888, 3) := by decide +kernel
set_option maxRecDepth 20000 in
theorem gu_L_X9_book : GoodIn wsL_law (wsV RL 66 RX9 yX9_book uX9_book) := goodIn_r _ [580, 581, 582, 2, 583, 168, 169, 2, 527, 23, 35, 584, 585, 586, 587, 588, 589, 34, 591, 592, 593, 20, 595, 596, 597, 19, 528, 170, 590, 86, 594, 89, 598, 599, 349, 350, 351, 250, 251, 252, 67, 352, 353, 354, 253, 355, 66, 1064, 1065, 1066, 1067, 1068, 1069, 1070, 1071, 1072, 1073, 1074, 1075, 1076, 1077, 1078, 1079, 1080, 1081, 1130, 1131, 1132, 1133, 1134, 1135, 1136, 1137, 1122, 1123, 1124, 1125, 1126, 1127] rfl (by decide +kernel)
set_option maxRecDepth 20000 in
theorem gu_L_X10_book : GoodIn wsL_law (wsV RL 69 RX10 yX10_book uX10_book) := goodIn_r _ [600, 601, 602, 5, 603, 391, 182, 183, 5, 370, 142, 547, 548, 549, 377, 378, 379, 546, 545, 184, 550, 380, 381, 382, 383, 140, 384, 365, 137, 138, 1082, 1083, 1084, 1085, 1086, 1087, 1088, 1089, 1090, 1091, 1092, 1093, 1094, 1095, 1096, 1097, 1098, 1099, 1100, 1101, 1102, 1103, 1104, 1105, 1106, 1107, 1108, 1109, 1110, 1111, 1112, 1113, 1114, 1115, 1116, 1117] rfl (by decide +kernel)
set_option maxHeartbeats 4000000 in
set_option maxRecDepth 100000 in
theorem lc_11 {p : Program} {l : Launch} {e : Env} {s : State} {m : MethodId} {below : List Frame} {meth : Method} {c : Code} {cells slots : Nat} {Q : State → Prop} {b h0 L : Nat} {xs : Nat → Int32} {yi : Int32} {D : va_G} {cI cL cC : ClassId} {tx tm : Nat → Nat} {H : Heap} {locs : List Loc} {ls : Array Slot} {gC : Int32} {gP : Int32} {gT : Nat → Int32} {gR : Nat → Int32} {mm : Int32} {ms : Int32} {mg : Int32} {mL : Nat → Int32} {mQ : Nat → Int32} {mZ : Nat → Int32} {dm : Int32} {ds : Int32} {dg : Int32} {dL : Nat → Int32} {dQ : Nat → Int32} {dZ : Nat → Int32} {om : Int32} {os : Int32} {og : Int32} {oL : Nat → Int32} {oQ : Nat → Int32} {oZ : Nat → Int32} {gB : Int32} {gO : Int32} {xk : Int32} {gE : Int32} {gV : Nat → Int32} {gU : Nat → Int32} {gN : Nat → Int32} {G : Nat} {gW : Nat → Int32} {gA : Nat → Int32} {gI : Int32} {gS : Int32} {gM : Int32} {K : Nat → Int32} {F : Nat → Int32} {S : Nat → Int32} {N : Nat → Int32} {gH : Int} {gJ : Int} {ge : Int32} {gk : Int32} {gf : Int32} {gs : Int32} {gg : Int32} {gr : Int32} {RN : Nat → Int32} {gb : Int32} {rV : Nat → Int32} {rN : Nat → Int32} (hx : p.tables.exec = Jvm.exec) (hb : c.code = cL_law) (hml : c.maxLocals = 4) (hown : s.vm.findClass RL = some m.cls) (hts : ∀ w ∈ wsL_law, w.before #[Value.ref b] s = true) (hE : EV D cI cL cC s) (hbl : b < h0) (hT0 : cT h0 tm tx) (hG : tG D (hF cI cL cC gC gP gT gR mm ms mg mL mQ mZ dm ds dg dL dQ dZ om os og oL oQ oZ gB gO xk gE gV gU gN G gW gA) tx H) (hM : tG D (mF cI cL cC gC gE gW gA gT gI gS gM K F S N gH gJ ge gk gf gs gg gr RN gb rV rN) tm H) (kt2 : tm (h0 + 92) = 40) (hm00 : ∀ q : Nat, q < h0 → tm q = 0) (uqm : ∀ b c : Nat, tm b = tm c → tm b ≠ 0 → b = c) (hC0 : 0 ≤ gC.toInt) (hC4 : gC.toInt ≤ 400) (hP0 : 0 ≤ gP.toInt) (hP4 : gP.toInt ≤ 400) (hTg : gBd 400 0 255 gT) (mg0 : 0 ≤ mg.toInt) (mg4 : mg.toInt ≤ 4) (dg0 : 0 ≤ dg.toInt) (dg4 : dg.toInt ≤ 4) (og0 : 0 ≤ og.toInt) (og4 : og.toInt ≤ 4) (xk0 : 0 ≤ xk.toInt) (xk3 : xk.toInt ≤ 3) (hI0 : 0 ≤ gI.toInt) (hI4 : gI.toInt ≤ 40) (hH0 : 0 ≤ gH) (hH9 : gH ≤ 96) (hm0 : 0 ≤ gM.toInt) (hm3 : gM.toInt ≤ 3) (hO0 : okM K F S N 0 gI.toInt) (hW : swM gS K F S N gI.toInt) (hoR : othR gb gS gI K F) (hrB : relB gB gb mm gI mL mQ K F) (hoC : othC gB gO mm om mL mQ oL oQ) (heV : eqV gV rV gN rN) (hGb : (G : Int) ≤ 3072 * yi.toInt) (hy0 : 0 ≤ yi.toInt) (hy8 : yi.toInt + 8 ≤ (L : Int)) (hL : L ≤ 4096) (hS : cF h0 s.heap H locs) (hX : va_X b L xs s H) (hl : lv_has ls 4 [(3, .int yi), (2, .ref (h0 + 92)), (1, .ref h0), (0, .ref b)]) (hcl : cells ≤ 600000) (hsl : slots ≤ 7302250) (kx : ∀ (H1 : Heap) (locs1 : List Loc) (tx' : Nat → Nat) (gC' : Int32) (gP' : Int32) (gT' : Nat → Int32) (gR' : Nat → Int32) (mm' : Int32) (ms' : Int32) (mg' : Int32) (mL' : Nat → Int32) (mQ' : Nat → Int32) (mZ' : Nat → Int32) (dm' : Int32) (ds' : Int32) (dg' : Int32) (dL' : Nat → Int32) (dQ' : Nat → Int32) (dZ' : Nat → Int32) (om' : Int32) (os' : Int32) (og' : Int32) (oL' : Nat → Int32) (oQ' : Nat → Int32) (oZ' : Nat → Int32) (gB' : Int32) (gO' : Int32) (xk' : Int32) (gE' : Int32) (gV' : Nat → Int32) (gU' : Nat → Int32) (gN' : Nat → Int32) (G' : Nat) (gW' : Nat → Int32) (gA' : Nat → Int32) (gI' : Int32) (gS' : Int32) (gM' : Int32) (K' : Nat → Int32) (F' : Nat → Int32) (S' : Nat → Int32) (N' : Nat → Int32) (gH' : Int) (gJ' : Int) (ge' : Int32) (gk' : Int32) (gf' : Int32) (gs' : Int32) (gg' : Int32) (gr' : Int32) (RN' : Nat → Int32) (gb' : Int32) (rV' : Nat → Int32) (rN' : Nat → Int32), cT h0 tm tx' → tG D (hF cI cL cC gC' gP' gT' gR' mm' ms' mg' mL' mQ' mZ' dm' ds' dg' dL' dQ' dZ' om' os' og' oL' oQ' oZ' gB' gO' xk' gE' gV' gU' gN' G' gW' gA') tx' H1 → tG D (mF cI cL cC gC' gE' gW' gA' gT' gI' gS' gM' K' F' S' N' gH' gJ' ge' gk' gf' gs' gg' gr' RN' gb' rV' rN') tm H1 → (0 ≤ gC'.toInt) → (gC'.toInt ≤ 400) → (0 ≤ gP'.toInt) → (gP'.toInt ≤ 400) → (gBd 400 0 255 gT') → (0 ≤ mg'.toInt) → (mg'.toInt ≤ 4) → (0 ≤ dg'.toInt) → (dg'.toInt ≤ 4) → (0 ≤ og'.toInt) → (og'.toInt ≤ 4) → (0 ≤ xk'.toInt) → (xk'.toInt ≤ 3) → (0 ≤ gI'.toInt) → (gI'.toInt ≤ 40) → (0 ≤ gH') → (gH' ≤ 96) → (0 ≤ gM'.toInt) → (gM'.toInt ≤ 3) → (okM K' F' S' N' 0 gI'.toInt) → (swM gS' K' F' S' N' gI'.toInt) → (othR gb' gS' gI' K' F') → (relB gB' gb' mm' gI' mL' mQ' K' F') → (othC gB' gO' mm' om' mL' mQ' oL' oQ') → (eqV gV' rV' gN' rN') → (G' : Int) ≤ 3072 * yi.toInt + 24576 → cF h0 s.heap H1 locs1 → va_X b L xs s H1 → W p l e room_1 s m #[Value.ref b] below meth c H1 locs1 cells slots Q (F0 m 1409 ls [])) : W p l e room_1 s m #[Value.ref b] below meth c H locs cells slots Q (F0 m 501 ls []) := by
  refine lv_aload_n hx hb dL_law_501 rfl (lv_at hl 2 rfl) ?_
  refine lw_argC hx hb hX hl hy0 hy8 hL 1 (by decide) (by decide) dL_law_502 dL_law_503 dL_law_504 dL_law_505 dL_law_506 ?_
  refine lv_pc (pc2 := 507) rfl ?_
  obtain ⟨_, at_1⟩ := rcvH hG hT0.1
  have hV_5 : tG D (gF cI cL cC gC gE G gW gA) (fun q => cwA (tx q)) H := tG.vw hG (cwA_vw ⟨by omega, by omega⟩ ⟨by omega, by omega, by omega, by omega⟩ ⟨by omega, by omega⟩ ⟨by omega, by omega⟩ ⟨by omega, by omega⟩) rfl
  refine lw_calll (W.runV (As := [.int (xs (yi.toInt + 1).toNat)]) (rest := []) ⟨hx, hb, hml, hown, hts⟩ (s_X9_book l D (fun q => cwA (tx q)) cI cL cC gC gE G gW gA h0 (xs (yi.toInt + 1).toNat) (by show cwA (tx h0) = 1; rw [hT0.1]; rfl)) (cwV 1 hts gu_L_X9_book rfl rfl rfl (by decide +kernel) ⟨Nat.le_of_ble_eq_true rfl, Nat.le_of_ble_eq_true rfl⟩) (tP_V hV_5 hE at_1 rfl) rfl rfl hl.1 rfl (lv_room (Nat.le_of_ble_eq_true rfl)) dL_law_507 ⟨hcl, hsl⟩) hS rfl (fun q h => by show cwA (tx q) = 0; rw [hT0.2.1 q h]; rfl) (fun r_2 H locs hp_3 hV_6 hS o_4 => ?_)
  replace hX := hX.kept (o_4 b (by show wr0 (cwA (tx b)) = false; rw [hT0.2.1 b hbl]; rfl))
  replace hM := tG.keptW hM o_4 (fun q h => by show wr0 (cwA (tx q)) = false; rw [hT0.2.2.1 q h]; rfl)
  replace hG := tG.kept0 hG o_4
  clear hV_5 hV_6
  refine lv_pop2_2 hx hb dL_law_510 rfl ?_
  refine lv_aload_n hx hb dL_law_511 rfl (lv_at hl 1 rfl) ?_
  refine lw_argC hx hb hX hl hy0 hy8 hL 1 (by decide) (by decide) dL_law_512 dL_law_513 dL_law_514 dL_law_515 dL_law_516 ?_
  refine lv_pc (pc2 := 517) rfl ?_
  obtain ⟨_, at_7⟩ := rcv40 hM kt2
  refine lw_calll (W.runV (As := [.int (xs (yi.toInt + 1).toNat)]) (rest := []) ⟨hx, hb, hml, hown, hts⟩ (m_X10_book l D tm cI cL cC gC gE gW gA gT gI gS gM K F S N gH gJ ge gk gf gs gg gr RN gb rV rN (h0 + 92) (xs (yi.toInt + 1).toNat) uqm hC0 hC4 hI0 hI4 hH0 hH9 hm0 hm3 hO0 hW hoR kt2) (cwV 1 hts gu_L_X10_book rfl rfl rfl (by decide +kernel) ⟨Nat.le_of_ble_eq_true rfl, Nat.le_of_ble_eq_true rfl⟩) (tP_V hM hE at_7 rfl) rfl rfl hl.1 rfl (lv_room (Nat.le_of_ble_eq_true rfl)) dL_law_517 ⟨hcl, hsl⟩) hS rfl hm00 (fun r_8 H locs hp_9 hM hS o_10 => ?_)
  replace hX := hX.kept (o_10 b (by rw [hm00 b hbl]; rfl))
  replace hG := tG.keptW hG o_10 (fun q h => by rw [hT0.2.2.2.1 q h]; rfl)
  refine lv_pc (pc2 := 520) rfl ?_
  refine lv_pop2_2 hx hb dL_law_520 rfl ?_
  refine lv_goto (tgt := 1409) hx hb dL_law_521 (by decide) ?_
  exact kx H locs tx _ _ _ _ _ _ _ _ _ _ _ _ _ _ _ _ _ _ _ _ _ _ _ _ _ _ _ _ _ _ _ _ _ _ _ _ _ _ _ _ _ _ _ _ _ _ _ _ _ _ _ hT0 hG hM hC0 hC4 hP0 hP4 hTg mg0 mg4 dg0 dg4 og0 og4 xk0 xk3 hI0 hI4 hH0 hH9 hm0 hm3 hO0 hW hoR (relB.step hrB smC.rf smR.rf) hoC heV (by omega) hS hX
theorem dL_law_524 : decode cL_law 524 = .ok (.aload_n 1, 1) := by decide +kernel
theorem dL_law_525 : decode cL_law 525 = .ok (.aload_n 0, 1) := by decide +kernel
theorem dL_law_526 : decode cL_law 526 = .ok (.iload_n 3, 1) := by decide +kernel
theorem dL_law_527 : decode cL_law 527 = .ok (.iconst 1, 1) := by decide +kernel
theorem dL_law_528 : decode cL_law 528 = .ok (.iadd, 1) := by decide +kernel
theorem dL_law_529 : decode cL_law 529 = .ok (.iaload, 1) := by decide +kernel
theorem dL_law_530 : decode cL_law 530 = .ok (.aload_n 0, 1) := by decide +kernel
theorem dL_law_531 : decode cL_law 531 = .ok (.iload_n 3, 1) := by decide +kernel
theorem dL_law_532 : decode cL_law 532 = .ok (.iconst 2, 1) := by decide +kernel
theorem dL_law_533 : decode cL_law 533 = .ok (.iadd, 1) := by decide +kernel
theorem dL_law_534 : decode cL_law 534 = .ok (.iaload, 1) := by decide +kernel
theorem dL_law_535 : decode cL_law 535 = .ok (.aload_n 0, 1) := by decide +kernel
theorem dL_law_536 : decode cL_law 536 = .ok (.iload_n 3, 1) := by decide +kernel
theorem dL_law_537 : decode cL_law 537 = .ok (.iconst 3, 1) := by decide +kernel
theorem dL_law_538 : decode cL_law 538 = .ok (.iadd, 1) := by decide +kernel
theorem dL_law_539 : decode cL_law 539 = .ok (.iaload, 1) := by decide +kernel
theorem dL_law_540 : decode cL_law 540 = .ok (.invokevirtual 70, 3) := by decide +kernel
theorem dL_law_543 : decode cL_law 543 = .ok (.pop, 1) := by decide +kernel
theorem dL_law_544 : decode cL_law 544 = .ok (.aload_n 2, 1) := by decide +kernel
theorem dL_law_545 : decode cL_law 545 = .ok (.aload_n 0, 1) := by decide +kernel
theorem dL_law_546 : decode cL_law 546 = .ok (.iload_n 3, 1) := by decide +kernel
theorem dL_law_547 : decode cL_law 547 = .ok (.iconst 1, 1) := by decide +kernel
theorem dL_law_548 : decode cL_law 548 = .ok (.iadd, 1) := by decide +kernel
theorem dL_law_549 : decode cL_law 549 = .ok (.iaload, 1) := by decide +kernel
theorem dL_law_550 : decode cL_law 550 = .ok (.aload_n 0, 1) := by decide +kernel
theorem dL_law_551 : decode cL_law 551 = .ok (.iload_n 3, 1) := by decide +kernel
theorem dL_law_552 : decode cL_law 552 = .ok (.iconst 2, 1) := by decide +kernel
theorem dL_law_553 : decode cL_law 553 = .ok (.iadd, 1) := by decide +kernel
theorem dL_law_554 : decode cL_law 554 = .ok (.iaload, 1) := by decide +kernel
theorem dL_law_555 : decode cL_law 555 = .ok (.aload_n 0, 1) := by decide +kernel
theorem dL_law_556 : decode cL_law 556 = .ok (.iload_n 3, 1) := by decide +kernel
theorem dL_law_557 : decode cL_law 557 = .ok (.iconst 3, 1) := by decide +kernel
theorem dL_law_558 : decode cL_law 558 = .ok (.iadd, 1) := by decide +kernel
theorem dL_law_559 : decode cL_law 559 = .ok (.iaload, 1) := by decide +kernel
theorem dL_law_560 : decode cL_law 560 = .ok (.invokevirtual 74, 3) := by decide +kernel
theorem dL_law_563 : decode cL_law 563 = .ok (.pop, 1) := by decide +kernel
theorem dL_law_564 : decode cL_law 564 = .ok (.goto 845, 3) := by decide +kernel
set_option maxRecDepth 20000 in
theorem gu_L_hX9_gauge : GoodIn wsL_law (wsV RL 70 RX9 yX9_gauge uhX9_gauge) := goodIn_r _ [604, 605, 606, 2, 607, 608, 609, 2, 168, 169, 530, 223, 531, 532, 533, 43, 611, 612, 613, 42, 401, 402, 403, 400, 274, 610, 170, 224, 534, 23, 20, 535, 251, 252, 19, 253, 67, 614, 98, 99, 100, 404, 330, 275, 1064, 1065, 1066, 1067, 1068, 1069, 1070, 1071, 1072, 1073, 1074, 1075, 1076, 1077, 1078, 1079, 1080, 1081, 1122, 1123, 1124, 1125, 1126, 1127, 1138, 1139, 1140, 1141] rfl (by decide +kernel)
set_option maxRecDepth 20000 in
theorem gu_L_X10_gauge : GoodIn wsL_law (wsV RL 74 RX10 yX10_gauge uX10_gauge) := goodIn_r _ [615, 616, 617, 5, 618, 575, 182, 183, 5, 544, 370, 392, 393, 394, 145, 146, 147, 365, 410, 184, 395, 381, 382, 383, 384, 137, 138, 1082, 1083, 1084, 1085, 1086, 1087, 1088, 1089, 1090, 1091, 1092, 1093, 1094, 1095, 1096, 1097, 1098, 1099, 1100, 1101, 1102, 1103, 1104, 1105, 1106, 1107, 1108, 1109, 1110, 1111, 1112, 1113, 1114, 1115, 1116, 1117] rfl (by decide +kernel)
set_option maxHeartbeats 4000000 in
set_option maxRecDepth 100000 in
theorem lc_12 {p : Program} {l : Launch} {e : Env} {s : State} {m : MethodId} {below : List Frame} {meth : Method} {c : Code} {cells slots : Nat} {Q : State → Prop} {b h0 L : Nat} {xs : Nat → Int32} {yi : Int32} {D : va_G} {cI cL cC : ClassId} {tx tm : Nat → Nat} {H : Heap} {locs : List Loc} {ls : Array Slot} {gC : Int32} {gP : Int32} {gT : Nat → Int32} {gR : Nat → Int32} {mm : Int32} {ms : Int32} {mg : Int32} {mL : Nat → Int32} {mQ : Nat → Int32} {mZ : Nat → Int32} {dm : Int32} {ds : Int32} {dg : Int32} {dL : Nat → Int32} {dQ : Nat → Int32} {dZ : Nat → Int32} {om : Int32} {os : Int32} {og : Int32} {oL : Nat → Int32} {oQ : Nat → Int32} {oZ : Nat → Int32} {gB : Int32} {gO : Int32} {xk : Int32} {gE : Int32} {gV : Nat → Int32} {gU : Nat → Int32} {gN : Nat → Int32} {G : Nat} {gW : Nat → Int32} {gA : Nat → Int32} {gI : Int32} {gS : Int32} {gM : Int32} {K : Nat → Int32} {F : Nat → Int32} {S : Nat → Int32} {N : Nat → Int32} {gH : Int} {gJ : Int} {ge : Int32} {gk : Int32} {gf : Int32} {gs : Int32} {gg : Int32} {gr : Int32} {RN : Nat → Int32} {gb : Int32} {rV : Nat → Int32} {rN : Nat → Int32} (hx : p.tables.exec = Jvm.exec) (hb : c.code = cL_law) (hml : c.maxLocals = 4) (hown : s.vm.findClass RL = some m.cls) (hts : ∀ w ∈ wsL_law, w.before #[Value.ref b] s = true) (hE : EV D cI cL cC s) (hbl : b < h0) (hT0 : cT h0 tm tx) (hG : tG D (hF cI cL cC gC gP gT gR mm ms mg mL mQ mZ dm ds dg dL dQ dZ om os og oL oQ oZ gB gO xk gE gV gU gN G gW gA) tx H) (hM : tG D (mF cI cL cC gC gE gW gA gT gI gS gM K F S N gH gJ ge gk gf gs gg gr RN gb rV rN) tm H) (kt2 : tm (h0 + 92) = 40) (hm00 : ∀ q : Nat, q < h0 → tm q = 0) (uqm : ∀ b c : Nat, tm b = tm c → tm b ≠ 0 → b = c) (hC0 : 0 ≤ gC.toInt) (hC4 : gC.toInt ≤ 400) (hP0 : 0 ≤ gP.toInt) (hP4 : gP.toInt ≤ 400) (hTg : gBd 400 0 255 gT) (mg0 : 0 ≤ mg.toInt) (mg4 : mg.toInt ≤ 4) (dg0 : 0 ≤ dg.toInt) (dg4 : dg.toInt ≤ 4) (og0 : 0 ≤ og.toInt) (og4 : og.toInt ≤ 4) (xk0 : 0 ≤ xk.toInt) (xk3 : xk.toInt ≤ 3) (hI0 : 0 ≤ gI.toInt) (hI4 : gI.toInt ≤ 40) (hH0 : 0 ≤ gH) (hH9 : gH ≤ 96) (hm0 : 0 ≤ gM.toInt) (hm3 : gM.toInt ≤ 3) (hO0 : okM K F S N 0 gI.toInt) (hW : swM gS K F S N gI.toInt) (hoR : othR gb gS gI K F) (hrB : relB gB gb mm gI mL mQ K F) (hoC : othC gB gO mm om mL mQ oL oQ) (heV : eqV gV rV gN rN) (hGb : (G : Int) ≤ 3072 * yi.toInt) (hy0 : 0 ≤ yi.toInt) (hy8 : yi.toInt + 8 ≤ (L : Int)) (hL : L ≤ 4096) (hS : cF h0 s.heap H locs) (hX : va_X b L xs s H) (hl : lv_has ls 4 [(3, .int yi), (2, .ref (h0 + 92)), (1, .ref h0), (0, .ref b)]) (hcl : cells ≤ 600000) (hsl : slots ≤ 7302250) (kx : ∀ (H1 : Heap) (locs1 : List Loc) (tx' : Nat → Nat) (gC' : Int32) (gP' : Int32) (gT' : Nat → Int32) (gR' : Nat → Int32) (mm' : Int32) (ms' : Int32) (mg' : Int32) (mL' : Nat → Int32) (mQ' : Nat → Int32) (mZ' : Nat → Int32) (dm' : Int32) (ds' : Int32) (dg' : Int32) (dL' : Nat → Int32) (dQ' : Nat → Int32) (dZ' : Nat → Int32) (om' : Int32) (os' : Int32) (og' : Int32) (oL' : Nat → Int32) (oQ' : Nat → Int32) (oZ' : Nat → Int32) (gB' : Int32) (gO' : Int32) (xk' : Int32) (gE' : Int32) (gV' : Nat → Int32) (gU' : Nat → Int32) (gN' : Nat → Int32) (G' : Nat) (gW' : Nat → Int32) (gA' : Nat → Int32) (gI' : Int32) (gS' : Int32) (gM' : Int32) (K' : Nat → Int32) (F' : Nat → Int32) (S' : Nat → Int32) (N' : Nat → Int32) (gH' : Int) (gJ' : Int) (ge' : Int32) (gk' : Int32) (gf' : Int32) (gs' : Int32) (gg' : Int32) (gr' : Int32) (RN' : Nat → Int32) (gb' : Int32) (rV' : Nat → Int32) (rN' : Nat → Int32), cT h0 tm tx' → tG D (hF cI cL cC gC' gP' gT' gR' mm' ms' mg' mL' mQ' mZ' dm' ds' dg' dL' dQ' dZ' om' os' og' oL' oQ' oZ' gB' gO' xk' gE' gV' gU' gN' G' gW' gA') tx' H1 → tG D (mF cI cL cC gC' gE' gW' gA' gT' gI' gS' gM' K' F' S' N' gH' gJ' ge' gk' gf' gs' gg' gr' RN' gb' rV' rN') tm H1 → (0 ≤ gC'.toInt) → (gC'.toInt ≤ 400) → (0 ≤ gP'.toInt) → (gP'.toInt ≤ 400) → (gBd 400 0 255 gT') → (0 ≤ mg'.toInt) → (mg'.toInt ≤ 4) → (0 ≤ dg'.toInt) → (dg'.toInt ≤ 4) → (0 ≤ og'.toInt) → (og'.toInt ≤ 4) → (0 ≤ xk'.toInt) → (xk'.toInt ≤ 3) → (0 ≤ gI'.toInt) → (gI'.toInt ≤ 40) → (0 ≤ gH') → (gH' ≤ 96) → (0 ≤ gM'.toInt) → (gM'.toInt ≤ 3) → (okM K' F' S' N' 0 gI'.toInt) → (swM gS' K' F' S' N' gI'.toInt) → (othR gb' gS' gI' K' F') → (relB gB' gb' mm' gI' mL' mQ' K' F') → (othC gB' gO' mm' om' mL' mQ' oL' oQ') → (eqV gV' rV' gN' rN') → (G' : Int) ≤ 3072 * yi.toInt + 24576 → cF h0 s.heap H1 locs1 → va_X b L xs s H1 → W p l e room_1 s m #[Value.ref b] below meth c H1 locs1 cells slots Q (F0 m 1409 ls [])) : W p l e room_1 s m #[Value.ref b] below meth c H locs cells slots Q (F0 m 524 ls []) := by
  refine lv_aload_n hx hb dL_law_524 rfl (lv_at hl 2 rfl) ?_
  refine lw_argC hx hb hX hl hy0 hy8 hL 1 (by decide) (by decide) dL_law_525 dL_law_526 dL_law_527 dL_law_528 dL_law_529 ?_
  refine lv_pc (pc2 := 530) rfl ?_
  refine lw_argC hx hb hX hl hy0 hy8 hL 2 (by decide) (by decide) dL_law_530 dL_law_531 dL_law_532 dL_law_533 dL_law_534 ?_
  refine lv_pc (pc2 := 535) rfl ?_
  refine lw_argC hx hb hX hl hy0 hy8 hL 3 (by decide) (by decide) dL_law_535 dL_law_536 dL_law_537 dL_law_538 dL_law_539 ?_
  refine lv_pc (pc2 := 540) rfl ?_
  obtain ⟨_, at_1⟩ := rcvH hG hT0.1
  refine lx_calli (W.runV (As := [.int (xs (yi.toInt + 1).toNat), .int (xs (yi.toInt + 2).toNat), .int (xs (yi.toInt + 3).toNat)]) (rest := []) ⟨hx, hb, hml, hown, hts⟩ (h_X9_gauge l D tx cI cL cC gC gP gT gR mm ms mg mL mQ mZ dm ds dg dL dQ dZ om os og oL oQ oZ gB gO xk gE gV gU gN G gW gA h0 (xs (yi.toInt + 1).toNat) (xs (yi.toInt + 2).toNat) (xs (yi.toInt + 3).toNat) hT0.2.2.2.2 hC0 hC4 hP0 hP4 hTg mg0 mg4 dg0 dg4 og0 og4 xk0 xk3 hT0.1) (cwV 3 hts gu_L_hX9_gauge rfl rfl rfl (by decide +kernel) ⟨Nat.le_of_ble_eq_true rfl, Nat.le_of_ble_eq_true rfl⟩) (tP_V hG hE at_1 rfl) rfl rfl hl.1 rfl (lv_room (Nat.le_of_ble_eq_true rfl)) dL_law_540 ⟨hcl, hsl⟩) hS rfl hT0.2.1 (fun r_2 zz_8 H locs hp_3 hG hS o_4 => ?_)
  obtain ⟨gV_5, gU_6, gN_7⟩ := zz_8
  replace hX := hX.kept (o_4 b (by rw [hT0.2.1 b hbl]; rfl))
  replace hM := tG.keptW hM o_4 (fun q h => by rw [hT0.2.2.1 q h]; rfl)
  replace hG : tG D (hF cI cL cC gC gP gT gR mm ms mg mL mQ mZ dm ds dg dL dQ dZ om os og oL oQ oZ gB gO xk gE gV_5 gU_6 gN_7 G gW gA) tx H := hG
  have hp_3 : (gauR (gB.toInt = 0 ∨ ((xs (yi.toInt + 2).toNat).toInt = 0 ∧ mm.toInt ≤ (xs (yi.toInt + 3).toNat).toInt) ∨ ((xs (yi.toInt + 2).toNat).toInt ≠ 0 ∧ ¬ hsQ mQ (xs (yi.toInt + 3).toNat).toInt)) gV gN (xs (yi.toInt + 1).toNat) (xs (yi.toInt + 2).toNat) (xs (yi.toInt + 3).toNat) r_2 gV_5 gN_7) := hp_3
  have p_9 := hp_3
  refine lv_pop hx hb dL_law_543 rfl ?_
  refine lv_aload_n hx hb dL_law_544 rfl (lv_at hl 1 rfl) ?_
  refine lv_pc (pc2 := 545) rfl ?_
  refine lw_argC hx hb hX hl hy0 hy8 hL 1 (by decide) (by decide) dL_law_545 dL_law_546 dL_law_547 dL_law_548 dL_law_549 ?_
  refine lv_pc (pc2 := 550) rfl ?_
  refine lw_argC hx hb hX hl hy0 hy8 hL 2 (by decide) (by decide) dL_law_550 dL_law_551 dL_law_552 dL_law_553 dL_law_554 ?_
  refine lv_pc (pc2 := 555) rfl ?_
  refine lw_argC hx hb hX hl hy0 hy8 hL 3 (by decide) (by decide) dL_law_555 dL_law_556 dL_law_557 dL_law_558 dL_law_559 ?_
  refine lv_pc (pc2 := 560) rfl ?_
  obtain ⟨_, at_10⟩ := rcv40 hM kt2
  refine lx_calli (W.runV (As := [.int (xs (yi.toInt + 1).toNat), .int (xs (yi.toInt + 2).toNat), .int (xs (yi.toInt + 3).toNat)]) (rest := []) ⟨hx, hb, hml, hown, hts⟩ (m_X10_gauge l D tm cI cL cC gC gE gW gA gT gI gS gM K F S N gH gJ ge gk gf gs gg gr RN gb rV rN (h0 + 92) (xs (yi.toInt + 1).toNat) (xs (yi.toInt + 2).toNat) (xs (yi.toInt + 3).toNat) uqm hC0 hC4 hI0 hI4 hH0 hH9 hm0 hm3 hO0 hW hoR kt2) (cwV 3 hts gu_L_X10_gauge rfl rfl rfl (by decide +kernel) ⟨Nat.le_of_ble_eq_true rfl, Nat.le_of_ble_eq_true rfl⟩) (tP_V hM hE at_10 rfl) rfl rfl hl.1 rfl (lv_room (Nat.le_of_ble_eq_true rfl)) dL_law_560 ⟨hcl, hsl⟩) hS rfl hm00 (fun r_11 zz_16 H locs hp_12 hM hS o_13 => ?_)
  obtain ⟨rV_14, rN_15⟩ := zz_16
  replace hX := hX.kept (o_13 b (by rw [hm00 b hbl]; rfl))
  replace hG := tG.keptW hG o_13 (fun q h => by rw [hT0.2.2.2.1 q h]; rfl)
  replace hM : tG D (mF cI cL cC gC gE gW gA gT gI gS gM K F S N gH gJ ge gk gf gs gg gr RN gb rV_14 rN_15) tm H := hM
  have hp_12 : (gauR (gb.toInt = 0 ∨ ((xs (yi.toInt + 2).toNat).toInt = 0 ∧ gI.toInt ≤ (xs (yi.toInt + 3).toNat).toInt) ∨ ((xs (yi.toInt + 2).toNat).toInt ≠ 0 ∧ ¬ hasS K F 0 gI.toInt (xs (yi.toInt + 3).toNat))) rV rN (xs (yi.toInt + 1).toNat) (xs (yi.toInt + 2).toNat) (xs (yi.toInt + 3).toNat) r_11 rV_14 rN_15) := hp_12
  have p_17 := hp_12
  refine lv_pop hx hb dL_law_563 rfl ?_
  refine lv_goto (tgt := 1409) hx hb dL_law_564 (by decide) ?_
  exact kx H locs tx _ _ _ _ _ _ _ _ _ _ _ _ _ _ _ _ _ _ _ _ _ _ _ _ _ _ _ _ _ _ _ _ _ _ _ _ _ _ _ _ _ _ _ _ _ _ _ _ _ _ _ hT0 hG hM hC0 hC4 hP0 hP4 hTg mg0 mg4 dg0 dg4 og0 og4 xk0 xk3 hI0 hI4 hH0 hH9 hm0 hm3 hO0 hW hoR (relB.step hrB smC.rf smR.rf) hoC (gauR.rel p_9 p_17 (relB.gno hrB _ _) heV).2 (by omega) hS hX
theorem dL_law_567 : decode cL_law 567 = .ok (.aload_n 1, 1) := by decide +kernel
theorem dL_law_568 : decode cL_law 568 = .ok (.aload_n 0, 1) := by decide +kernel
theorem dL_law_569 : decode cL_law 569 = .ok (.iload_n 3, 1) := by decide +kernel
theorem dL_law_570 : decode cL_law 570 = .ok (.iconst 1, 1) := by decide +kernel
theorem dL_law_571 : decode cL_law 571 = .ok (.iadd, 1) := by decide +kernel
theorem dL_law_572 : decode cL_law 572 = .ok (.iaload, 1) := by decide +kernel
theorem dL_law_573 : decode cL_law 573 = .ok (.invokevirtual 75, 3) := by decide +kernel
theorem dL_law_576 : decode cL_law 576 = .ok (.pop2, 1) := by decide +kernel
theorem dL_law_577 : decode cL_law 577 = .ok (.aload_n 2, 1) := by decide +kernel
theorem dL_law_578 : decode cL_law 578 = .ok (.aload_n 0, 1) := by decide +kernel
theorem dL_law_579 : decode cL_law 579 = .ok (.iload_n 3, 1) := by decide +kernel
theorem dL_law_580 : decode cL_law 580 = .ok (.iconst 1, 1) := by decide +kernel
theorem dL_law_581 : decode cL_law 581 = .ok (.iadd, 1) := by decide +kernel
theorem dL_law_582 : decode cL_law 582 = .ok (.iaload, 1) := by decide +kernel
theorem dL_law_583 : decode cL_law 583 = .ok (.invokevirtual 78, 3) := by decide +kernel
theorem dL_law_586 : decode cL_law 586 = .ok (.pop2, 1) := by decide +kernel
theorem dL_law_587 : decode cL_law 587 = .ok (.goto 822, 3) := by decide +kernel
set_option maxRecDepth 20000 in
theorem gu_L_X9_reads : GoodIn wsL_law (wsV RL 75 RX9 yX9_reads uX9_reads) := goodIn_r _ [619, 620, 621, 2, 622, 608, 609, 2, 527, 623, 624, 625, 35, 428, 43, 631, 632, 633, 42, 528, 610, 626, 23, 627, 628, 629, 630, 98, 634, 637, 99, 223, 636, 274, 635, 224, 275, 1064, 1065, 1066, 1067, 1068, 1069, 1070, 1071, 1072, 1073, 1074, 1075, 1076, 1077, 1078, 1079, 1080, 1081, 1130, 1131, 1132, 1133, 1134, 1135, 1136, 1137, 1138, 1139, 1140, 1141] rfl (by decide +kernel)
set_option maxRecDepth 20000 in
theorem gu_L_X10_reads : GoodIn wsL_law (wsV RL 78 RX10 yX10_reads uX10_reads) := goodIn_r _ [638, 639, 640, 5, 641, 575, 182, 183, 5, 642, 643, 644, 142, 646, 647, 648, 546, 545, 184, 645, 370, 145, 649, 146, 1082, 1083, 1084, 1085, 1086, 1087, 1088, 1089, 1090, 1091, 1092, 1093, 1094, 1095, 1096, 1097, 1098, 1099, 1100, 1101, 1102, 1103, 1104, 1105, 1106, 1107, 1108, 1109, 1110, 1111, 1112, 1113, 1114, 1115, 1116, 1117] rfl (by decide +kernel)
set_option maxHeartbeats 4000000 in
set_option maxRecDepth 100000 in
theorem lc_13 {p : Program} {l : Launch} {e : Env} {s : State} {m : MethodId} {below : List Frame} {meth : Method} {c : Code} {cells slots : Nat} {Q : State → Prop} {b h0 L : Nat} {xs : Nat → Int32} {yi : Int32} {D : va_G} {cI cL cC : ClassId} {tx tm : Nat → Nat} {H : Heap} {locs : List Loc} {ls : Array Slot} {gC : Int32} {gP : Int32} {gT : Nat → Int32} {gR : Nat → Int32} {mm : Int32} {ms : Int32} {mg : Int32} {mL : Nat → Int32} {mQ : Nat → Int32} {mZ : Nat → Int32} {dm : Int32} {ds : Int32} {dg : Int32} {dL : Nat → Int32} {dQ : Nat → Int32} {dZ : Nat → Int32} {om : Int32} {os : Int32} {og : Int32} {oL : Nat → Int32} {oQ : Nat → Int32} {oZ : Nat → Int32} {gB : Int32} {gO : Int32} {xk : Int32} {gE : Int32} {gV : Nat → Int32} {gU : Nat → Int32} {gN : Nat → Int32} {G : Nat} {gW : Nat → Int32} {gA : Nat → Int32} {gI : Int32} {gS : Int32} {gM : Int32} {K : Nat → Int32} {F : Nat → Int32} {S : Nat → Int32} {N : Nat → Int32} {gH : Int} {gJ : Int} {ge : Int32} {gk : Int32} {gf : Int32} {gs : Int32} {gg : Int32} {gr : Int32} {RN : Nat → Int32} {gb : Int32} {rV : Nat → Int32} {rN : Nat → Int32} (hx : p.tables.exec = Jvm.exec) (hb : c.code = cL_law) (hml : c.maxLocals = 4) (hown : s.vm.findClass RL = some m.cls) (hts : ∀ w ∈ wsL_law, w.before #[Value.ref b] s = true) (hE : EV D cI cL cC s) (hbl : b < h0) (hT0 : cT h0 tm tx) (hG : tG D (hF cI cL cC gC gP gT gR mm ms mg mL mQ mZ dm ds dg dL dQ dZ om os og oL oQ oZ gB gO xk gE gV gU gN G gW gA) tx H) (hM : tG D (mF cI cL cC gC gE gW gA gT gI gS gM K F S N gH gJ ge gk gf gs gg gr RN gb rV rN) tm H) (kt2 : tm (h0 + 92) = 40) (hm00 : ∀ q : Nat, q < h0 → tm q = 0) (uqm : ∀ b c : Nat, tm b = tm c → tm b ≠ 0 → b = c) (hC0 : 0 ≤ gC.toInt) (hC4 : gC.toInt ≤ 400) (hP0 : 0 ≤ gP.toInt) (hP4 : gP.toInt ≤ 400) (hTg : gBd 400 0 255 gT) (mg0 : 0 ≤ mg.toInt) (mg4 : mg.toInt ≤ 4) (dg0 : 0 ≤ dg.toInt) (dg4 : dg.toInt ≤ 4) (og0 : 0 ≤ og.toInt) (og4 : og.toInt ≤ 4) (xk0 : 0 ≤ xk.toInt) (xk3 : xk.toInt ≤ 3) (hI0 : 0 ≤ gI.toInt) (hI4 : gI.toInt ≤ 40) (hH0 : 0 ≤ gH) (hH9 : gH ≤ 96) (hm0 : 0 ≤ gM.toInt) (hm3 : gM.toInt ≤ 3) (hO0 : okM K F S N 0 gI.toInt) (hW : swM gS K F S N gI.toInt) (hoR : othR gb gS gI K F) (hrB : relB gB gb mm gI mL mQ K F) (hoC : othC gB gO mm om mL mQ oL oQ) (heV : eqV gV rV gN rN) (hGb : (G : Int) ≤ 3072 * yi.toInt) (hy0 : 0 ≤ yi.toInt) (hy8 : yi.toInt + 8 ≤ (L : Int)) (hL : L ≤ 4096) (hS : cF h0 s.heap H locs) (hX : va_X b L xs s H) (hl : lv_has ls 4 [(3, .int yi), (2, .ref (h0 + 92)), (1, .ref h0), (0, .ref b)]) (hcl : cells ≤ 600000) (hsl : slots ≤ 7302250) (kx : ∀ (H1 : Heap) (locs1 : List Loc) (tx' : Nat → Nat) (gC' : Int32) (gP' : Int32) (gT' : Nat → Int32) (gR' : Nat → Int32) (mm' : Int32) (ms' : Int32) (mg' : Int32) (mL' : Nat → Int32) (mQ' : Nat → Int32) (mZ' : Nat → Int32) (dm' : Int32) (ds' : Int32) (dg' : Int32) (dL' : Nat → Int32) (dQ' : Nat → Int32) (dZ' : Nat → Int32) (om' : Int32) (os' : Int32) (og' : Int32) (oL' : Nat → Int32) (oQ' : Nat → Int32) (oZ' : Nat → Int32) (gB' : Int32) (gO' : Int32) (xk' : Int32) (gE' : Int32) (gV' : Nat → Int32) (gU' : Nat → Int32) (gN' : Nat → Int32) (G' : Nat) (gW' : Nat → Int32) (gA' : Nat → Int32) (gI' : Int32) (gS' : Int32) (gM' : Int32) (K' : Nat → Int32) (F' : Nat → Int32) (S' : Nat → Int32) (N' : Nat → Int32) (gH' : Int) (gJ' : Int) (ge' : Int32) (gk' : Int32) (gf' : Int32) (gs' : Int32) (gg' : Int32) (gr' : Int32) (RN' : Nat → Int32) (gb' : Int32) (rV' : Nat → Int32) (rN' : Nat → Int32), cT h0 tm tx' → tG D (hF cI cL cC gC' gP' gT' gR' mm' ms' mg' mL' mQ' mZ' dm' ds' dg' dL' dQ' dZ' om' os' og' oL' oQ' oZ' gB' gO' xk' gE' gV' gU' gN' G' gW' gA') tx' H1 → tG D (mF cI cL cC gC' gE' gW' gA' gT' gI' gS' gM' K' F' S' N' gH' gJ' ge' gk' gf' gs' gg' gr' RN' gb' rV' rN') tm H1 → (0 ≤ gC'.toInt) → (gC'.toInt ≤ 400) → (0 ≤ gP'.toInt) → (gP'.toInt ≤ 400) → (gBd 400 0 255 gT') → (0 ≤ mg'.toInt) → (mg'.toInt ≤ 4) → (0 ≤ dg'.toInt) → (dg'.toInt ≤ 4) → (0 ≤ og'.toInt) → (og'.toInt ≤ 4) → (0 ≤ xk'.toInt) → (xk'.toInt ≤ 3) → (0 ≤ gI'.toInt) → (gI'.toInt ≤ 40) → (0 ≤ gH') → (gH' ≤ 96) → (0 ≤ gM'.toInt) → (gM'.toInt ≤ 3) → (okM K' F' S' N' 0 gI'.toInt) → (swM gS' K' F' S' N' gI'.toInt) → (othR gb' gS' gI' K' F') → (relB gB' gb' mm' gI' mL' mQ' K' F') → (othC gB' gO' mm' om' mL' mQ' oL' oQ') → (eqV gV' rV' gN' rN') → (G' : Int) ≤ 3072 * yi.toInt + 24576 → cF h0 s.heap H1 locs1 → va_X b L xs s H1 → W p l e room_1 s m #[Value.ref b] below meth c H1 locs1 cells slots Q (F0 m 1409 ls [])) : W p l e room_1 s m #[Value.ref b] below meth c H locs cells slots Q (F0 m 567 ls []) := by
  refine lv_aload_n hx hb dL_law_567 rfl (lv_at hl 2 rfl) ?_
  refine lw_argC hx hb hX hl hy0 hy8 hL 1 (by decide) (by decide) dL_law_568 dL_law_569 dL_law_570 dL_law_571 dL_law_572 ?_
  refine lv_pc (pc2 := 573) rfl ?_
  obtain ⟨_, at_1⟩ := rcvH hG hT0.1
  have hV_5 : tG D (gF cI cL cC gC gE G gW gA) (fun q => cwA (tx q)) H := tG.vw hG (cwA_vw ⟨by omega, by omega⟩ ⟨by omega, by omega, by omega, by omega⟩ ⟨by omega, by omega⟩ ⟨by omega, by omega⟩ ⟨by omega, by omega⟩) rfl
  refine lw_calll (W.runV (As := [.int (xs (yi.toInt + 1).toNat)]) (rest := []) ⟨hx, hb, hml, hown, hts⟩ (s_X9_reads l D (fun q => cwA (tx q)) cI cL cC gC gE G gW gA h0 (xs (yi.toInt + 1).toNat) (by show cwA (tx h0) = 1; rw [hT0.1]; rfl)) (cwV 1 hts gu_L_X9_reads rfl rfl rfl (by decide +kernel) ⟨Nat.le_of_ble_eq_true rfl, Nat.le_of_ble_eq_true rfl⟩) (tP_V hV_5 hE at_1 rfl) rfl rfl hl.1 rfl (lv_room (Nat.le_of_ble_eq_true rfl)) dL_law_573 ⟨hcl, hsl⟩) hS rfl (fun q h => by show cwA (tx q) = 0; rw [hT0.2.1 q h]; rfl) (fun r_2 H locs hp_3 hV_6 hS o_4 => ?_)
  replace hX := hX.kept (o_4 b (by show wr0 (cwA (tx b)) = false; rw [hT0.2.1 b hbl]; rfl))
  replace hM := tG.keptW hM o_4 (fun q h => by show wr0 (cwA (tx q)) = false; rw [hT0.2.2.1 q h]; rfl)
  replace hG := tG.kept0 hG o_4
  clear hV_5 hV_6
  refine lv_pop2_2 hx hb dL_law_576 rfl ?_
  refine lv_aload_n hx hb dL_law_577 rfl (lv_at hl 1 rfl) ?_
  refine lw_argC hx hb hX hl hy0 hy8 hL 1 (by decide) (by decide) dL_law_578 dL_law_579 dL_law_580 dL_law_581 dL_law_582 ?_
  refine lv_pc (pc2 := 583) rfl ?_
  obtain ⟨_, at_7⟩ := rcv40 hM kt2
  refine lw_calll (W.runV (As := [.int (xs (yi.toInt + 1).toNat)]) (rest := []) ⟨hx, hb, hml, hown, hts⟩ (m_X10_reads l D tm cI cL cC gC gE gW gA gT gI gS gM K F S N gH gJ ge gk gf gs gg gr RN gb rV rN (h0 + 92) (xs (yi.toInt + 1).toNat) uqm hC0 hC4 hI0 hI4 hH0 hH9 hm0 hm3 hO0 hW hoR kt2) (cwV 1 hts gu_L_X10_reads rfl rfl rfl (by decide +kernel) ⟨Nat.le_of_ble_eq_true rfl, Nat.le_of_ble_eq_true rfl⟩) (tP_V hM hE at_7 rfl) rfl rfl hl.1 rfl (lv_room (Nat.le_of_ble_eq_true rfl)) dL_law_583 ⟨hcl, hsl⟩) hS rfl hm00 (fun r_8 H locs hp_9 hM hS o_10 => ?_)
  replace hX := hX.kept (o_10 b (by rw [hm00 b hbl]; rfl))
  replace hG := tG.keptW hG o_10 (fun q h => by rw [hT0.2.2.2.1 q h]; rfl)
  refine lv_pc (pc2 := 586) rfl ?_
  refine lv_pop2_2 hx hb dL_law_586 rfl ?_
  refine lv_goto (tgt := 1409) hx hb dL_law_587 (by decide) ?_
  exact kx H locs tx _ _ _ _ _ _ _ _ _ _ _ _ _ _ _ _ _ _ _ _ _ _ _ _ _ _ _ _ _ _ _ _ _ _ _ _ _ _ _ _ _ _ _ _ _ _ _ _ _ _ _ hT0 hG hM hC0 hC4 hP0 hP4 hTg mg0 mg4 dg0 dg4 og0 og4 xk0 xk3 hI0 hI4 hH0 hH9 hm0 hm3 hO0 hW hoR (relB.step hrB smC.rf smR.rf) hoC heV (by omega) hS hX
theorem dL_law_590 : decode cL_law 590 = .ok (.aload_n 1, 1) := by decide +kernel
theorem dL_law_591 : decode cL_law 591 = .ok (.aload_n 0, 1) := by decide +kernel
theorem dL_law_592 : decode cL_law 592 = .ok (.iload_n 3, 1) := by decide +kernel
theorem dL_law_593 : decode cL_law 593 = .ok (.iconst 1, 1) := by decide +kernel
theorem dL_law_594 : decode cL_law 594 = .ok (.iadd, 1) := by decide +kernel
theorem dL_law_595 : decode cL_law 595 = .ok (.iaload, 1) := by decide +kernel
theorem dL_law_596 : decode cL_law 596 = .ok (.aload_n 0, 1) := by decide +kernel
theorem dL_law_597 : decode cL_law 597 = .ok (.iload_n 3, 1) := by decide +kernel
theorem dL_law_598 : decode cL_law 598 = .ok (.iconst 2, 1) := by decide +kernel
theorem dL_law_599 : decode cL_law 599 = .ok (.iadd, 1) := by decide +kernel
theorem dL_law_600 : decode cL_law 600 = .ok (.iaload, 1) := by decide +kernel
theorem dL_law_601 : decode cL_law 601 = .ok (.aload_n 0, 1) := by decide +kernel
theorem dL_law_602 : decode cL_law 602 = .ok (.iload_n 3, 1) := by decide +kernel
theorem dL_law_603 : decode cL_law 603 = .ok (.iconst 3, 1) := by decide +kernel
theorem dL_law_604 : decode cL_law 604 = .ok (.iadd, 1) := by decide +kernel
theorem dL_law_605 : decode cL_law 605 = .ok (.iaload, 1) := by decide +kernel
theorem dL_law_606 : decode cL_law 606 = .ok (.invokevirtual 79, 3) := by decide +kernel
theorem dL_law_609 : decode cL_law 609 = .ok (.aload_n 2, 1) := by decide +kernel
theorem dL_law_610 : decode cL_law 610 = .ok (.aload_n 0, 1) := by decide +kernel
theorem dL_law_611 : decode cL_law 611 = .ok (.iload_n 3, 1) := by decide +kernel
theorem dL_law_612 : decode cL_law 612 = .ok (.iconst 1, 1) := by decide +kernel
theorem dL_law_613 : decode cL_law 613 = .ok (.iadd, 1) := by decide +kernel
theorem dL_law_614 : decode cL_law 614 = .ok (.iaload, 1) := by decide +kernel
theorem dL_law_615 : decode cL_law 615 = .ok (.aload_n 0, 1) := by decide +kernel
theorem dL_law_616 : decode cL_law 616 = .ok (.iload_n 3, 1) := by decide +kernel
theorem dL_law_617 : decode cL_law 617 = .ok (.iconst 2, 1) := by decide +kernel
theorem dL_law_618 : decode cL_law 618 = .ok (.iadd, 1) := by decide +kernel
theorem dL_law_619 : decode cL_law 619 = .ok (.iaload, 1) := by decide +kernel
theorem dL_law_620 : decode cL_law 620 = .ok (.aload_n 0, 1) := by decide +kernel
theorem dL_law_621 : decode cL_law 621 = .ok (.iload_n 3, 1) := by decide +kernel
theorem dL_law_622 : decode cL_law 622 = .ok (.iconst 3, 1) := by decide +kernel
theorem dL_law_623 : decode cL_law 623 = .ok (.iadd, 1) := by decide +kernel
theorem dL_law_624 : decode cL_law 624 = .ok (.iaload, 1) := by decide +kernel
theorem dL_law_625 : decode cL_law 625 = .ok (.invokevirtual 82, 3) := by decide +kernel
theorem dL_law_628 : decode cL_law 628 = .ok (.if_icmp .eq 781, 3) := by decide +kernel
set_option maxRecDepth 20000 in
theorem gu_L_hX9_see : GoodIn wsL_law (wsV RL 79 RX9 yX9_see uhX9_see) := goodIn_r _ [650, 651, 652, 2, 653, 608, 609, 2, 168, 169, 654, 623, 624, 625, 43, 655, 656, 657, 42, 610, 170, 626, 23, 627, 628, 629, 630, 98, 658, 100, 1064, 1065, 1066, 1067, 1068, 1069, 1070, 1071, 1072, 1073, 1074, 1075, 1076, 1077, 1078, 1079, 1080, 1081, 1138, 1139, 1140, 1141] rfl (by decide +kernel)
set_option maxRecDepth 20000 in
theorem gu_L_X10_see : GoodIn wsL_law (wsV RL 82 RX10 yX10_see uX10_see) := goodIn_r _ [659, 660, 661, 5, 662, 575, 182, 183, 5, 421, 545, 663, 642, 643, 644, 147, 184, 645, 370, 145, 1082, 1083, 1084, 1085, 1086, 1087, 1088, 1089, 1090, 1091, 1092, 1093, 1094, 1095, 1096, 1097, 1098, 1099, 1100, 1101, 1102, 1103, 1104, 1105, 1106, 1107, 1108, 1109, 1110, 1111, 1112, 1113, 1114, 1115, 1116, 1117] rfl (by decide +kernel)
set_option maxHeartbeats 4000000 in
set_option maxRecDepth 100000 in
theorem lc_14 {p : Program} {l : Launch} {e : Env} {s : State} {m : MethodId} {below : List Frame} {meth : Method} {c : Code} {cells slots : Nat} {Q : State → Prop} {b h0 L : Nat} {xs : Nat → Int32} {yi : Int32} {D : va_G} {cI cL cC : ClassId} {tx tm : Nat → Nat} {H : Heap} {locs : List Loc} {ls : Array Slot} {gC : Int32} {gP : Int32} {gT : Nat → Int32} {gR : Nat → Int32} {mm : Int32} {ms : Int32} {mg : Int32} {mL : Nat → Int32} {mQ : Nat → Int32} {mZ : Nat → Int32} {dm : Int32} {ds : Int32} {dg : Int32} {dL : Nat → Int32} {dQ : Nat → Int32} {dZ : Nat → Int32} {om : Int32} {os : Int32} {og : Int32} {oL : Nat → Int32} {oQ : Nat → Int32} {oZ : Nat → Int32} {gB : Int32} {gO : Int32} {xk : Int32} {gE : Int32} {gV : Nat → Int32} {gU : Nat → Int32} {gN : Nat → Int32} {G : Nat} {gW : Nat → Int32} {gA : Nat → Int32} {gI : Int32} {gS : Int32} {gM : Int32} {K : Nat → Int32} {F : Nat → Int32} {S : Nat → Int32} {N : Nat → Int32} {gH : Int} {gJ : Int} {ge : Int32} {gk : Int32} {gf : Int32} {gs : Int32} {gg : Int32} {gr : Int32} {RN : Nat → Int32} {gb : Int32} {rV : Nat → Int32} {rN : Nat → Int32} (hx : p.tables.exec = Jvm.exec) (hb : c.code = cL_law) (hml : c.maxLocals = 4) (hown : s.vm.findClass RL = some m.cls) (hts : ∀ w ∈ wsL_law, w.before #[Value.ref b] s = true) (hE : EV D cI cL cC s) (hbl : b < h0) (hT0 : cT h0 tm tx) (hG : tG D (hF cI cL cC gC gP gT gR mm ms mg mL mQ mZ dm ds dg dL dQ dZ om os og oL oQ oZ gB gO xk gE gV gU gN G gW gA) tx H) (hM : tG D (mF cI cL cC gC gE gW gA gT gI gS gM K F S N gH gJ ge gk gf gs gg gr RN gb rV rN) tm H) (kt2 : tm (h0 + 92) = 40) (hm00 : ∀ q : Nat, q < h0 → tm q = 0) (uqm : ∀ b c : Nat, tm b = tm c → tm b ≠ 0 → b = c) (hC0 : 0 ≤ gC.toInt) (hC4 : gC.toInt ≤ 400) (hP0 : 0 ≤ gP.toInt) (hP4 : gP.toInt ≤ 400) (hTg : gBd 400 0 255 gT) (mg0 : 0 ≤ mg.toInt) (mg4 : mg.toInt ≤ 4) (dg0 : 0 ≤ dg.toInt) (dg4 : dg.toInt ≤ 4) (og0 : 0 ≤ og.toInt) (og4 : og.toInt ≤ 4) (xk0 : 0 ≤ xk.toInt) (xk3 : xk.toInt ≤ 3) (hI0 : 0 ≤ gI.toInt) (hI4 : gI.toInt ≤ 40) (hH0 : 0 ≤ gH) (hH9 : gH ≤ 96) (hm0 : 0 ≤ gM.toInt) (hm3 : gM.toInt ≤ 3) (hO0 : okM K F S N 0 gI.toInt) (hW : swM gS K F S N gI.toInt) (hoR : othR gb gS gI K F) (hrB : relB gB gb mm gI mL mQ K F) (hoC : othC gB gO mm om mL mQ oL oQ) (heV : eqV gV rV gN rN) (hGb : (G : Int) ≤ 3072 * yi.toInt) (hy0 : 0 ≤ yi.toInt) (hy8 : yi.toInt + 8 ≤ (L : Int)) (hL : L ≤ 4096) (hS : cF h0 s.heap H locs) (hX : va_X b L xs s H) (hl : lv_has ls 4 [(3, .int yi), (2, .ref (h0 + 92)), (1, .ref h0), (0, .ref b)]) (hcl : cells ≤ 600000) (hsl : slots ≤ 7302250) (kx : ∀ (H1 : Heap) (locs1 : List Loc) (tx' : Nat → Nat) (gC' : Int32) (gP' : Int32) (gT' : Nat → Int32) (gR' : Nat → Int32) (mm' : Int32) (ms' : Int32) (mg' : Int32) (mL' : Nat → Int32) (mQ' : Nat → Int32) (mZ' : Nat → Int32) (dm' : Int32) (ds' : Int32) (dg' : Int32) (dL' : Nat → Int32) (dQ' : Nat → Int32) (dZ' : Nat → Int32) (om' : Int32) (os' : Int32) (og' : Int32) (oL' : Nat → Int32) (oQ' : Nat → Int32) (oZ' : Nat → Int32) (gB' : Int32) (gO' : Int32) (xk' : Int32) (gE' : Int32) (gV' : Nat → Int32) (gU' : Nat → Int32) (gN' : Nat → Int32) (G' : Nat) (gW' : Nat → Int32) (gA' : Nat → Int32) (gI' : Int32) (gS' : Int32) (gM' : Int32) (K' : Nat → Int32) (F' : Nat → Int32) (S' : Nat → Int32) (N' : Nat → Int32) (gH' : Int) (gJ' : Int) (ge' : Int32) (gk' : Int32) (gf' : Int32) (gs' : Int32) (gg' : Int32) (gr' : Int32) (RN' : Nat → Int32) (gb' : Int32) (rV' : Nat → Int32) (rN' : Nat → Int32), cT h0 tm tx' → tG D (hF cI cL cC gC' gP' gT' gR' mm' ms' mg' mL' mQ' mZ' dm' ds' dg' dL' dQ' dZ' om' os' og' oL' oQ' oZ' gB' gO' xk' gE' gV' gU' gN' G' gW' gA') tx' H1 → tG D (mF cI cL cC gC' gE' gW' gA' gT' gI' gS' gM' K' F' S' N' gH' gJ' ge' gk' gf' gs' gg' gr' RN' gb' rV' rN') tm H1 → (0 ≤ gC'.toInt) → (gC'.toInt ≤ 400) → (0 ≤ gP'.toInt) → (gP'.toInt ≤ 400) → (gBd 400 0 255 gT') → (0 ≤ mg'.toInt) → (mg'.toInt ≤ 4) → (0 ≤ dg'.toInt) → (dg'.toInt ≤ 4) → (0 ≤ og'.toInt) → (og'.toInt ≤ 4) → (0 ≤ xk'.toInt) → (xk'.toInt ≤ 3) → (0 ≤ gI'.toInt) → (gI'.toInt ≤ 40) → (0 ≤ gH') → (gH' ≤ 96) → (0 ≤ gM'.toInt) → (gM'.toInt ≤ 3) → (okM K' F' S' N' 0 gI'.toInt) → (swM gS' K' F' S' N' gI'.toInt) → (othR gb' gS' gI' K' F') → (relB gB' gb' mm' gI' mL' mQ' K' F') → (othC gB' gO' mm' om' mL' mQ' oL' oQ') → (eqV gV' rV' gN' rN') → (G' : Int) ≤ 3072 * yi.toInt + 24576 → cF h0 s.heap H1 locs1 → va_X b L xs s H1 → W p l e room_1 s m #[Value.ref b] below meth c H1 locs1 cells slots Q (F0 m 1409 ls [])) : W p l e room_1 s m #[Value.ref b] below meth c H locs cells slots Q (F0 m 590 ls []) := by
  refine lv_aload_n hx hb dL_law_590 rfl (lv_at hl 2 rfl) ?_
  refine lw_argC hx hb hX hl hy0 hy8 hL 1 (by decide) (by decide) dL_law_591 dL_law_592 dL_law_593 dL_law_594 dL_law_595 ?_
  refine lv_pc (pc2 := 596) rfl ?_
  refine lw_argC hx hb hX hl hy0 hy8 hL 2 (by decide) (by decide) dL_law_596 dL_law_597 dL_law_598 dL_law_599 dL_law_600 ?_
  refine lv_pc (pc2 := 601) rfl ?_
  refine lw_argC hx hb hX hl hy0 hy8 hL 3 (by decide) (by decide) dL_law_601 dL_law_602 dL_law_603 dL_law_604 dL_law_605 ?_
  refine lv_pc (pc2 := 606) rfl ?_
  obtain ⟨_, at_1⟩ := rcvH hG hT0.1
  refine lx_calli (W.runV (As := [.int (xs (yi.toInt + 1).toNat), .int (xs (yi.toInt + 2).toNat), .int (xs (yi.toInt + 3).toNat)]) (rest := []) ⟨hx, hb, hml, hown, hts⟩ (h_X9_see l D tx cI cL cC gC gP gT gR mm ms mg mL mQ mZ dm ds dg dL dQ dZ om os og oL oQ oZ gB gO xk gE gV gU gN G gW gA h0 (xs (yi.toInt + 1).toNat) (xs (yi.toInt + 2).toNat) (xs (yi.toInt + 3).toNat) hT0.2.2.2.2 hC0 hC4 hP0 hP4 hTg mg0 mg4 dg0 dg4 og0 og4 xk0 xk3 hT0.1) (cwV 3 hts gu_L_hX9_see rfl rfl rfl (by decide +kernel) ⟨Nat.le_of_ble_eq_true rfl, Nat.le_of_ble_eq_true rfl⟩) (tP_V hG hE at_1 rfl) rfl rfl hl.1 rfl (lv_room (Nat.le_of_ble_eq_true rfl)) dL_law_606 ⟨hcl, hsl⟩) hS rfl hT0.2.1 (fun r_2 gN_5 H locs hp_3 hG hS o_4 => ?_)
  replace hX := hX.kept (o_4 b (by rw [hT0.2.1 b hbl]; rfl))
  replace hM := tG.keptW hM o_4 (fun q h => by rw [hT0.2.2.1 q h]; rfl)
  replace hG : tG D (hF cI cL cC gC gP gT gR mm ms mg mL mQ mZ dm ds dg dL dQ dZ om os og oL oQ oZ gB gO xk gE gV gU gN_5 G gW gA) tx H := hG
  have hp_3 : (seeR (gB.toInt = 0 ∨ (gV (xs (yi.toInt + 1).toNat).toInt.toNat).toInt = -4) gN (xs (yi.toInt + 1).toNat) (xs (yi.toInt + 2).toNat) (xs (yi.toInt + 3).toNat) r_2 gN_5) := hp_3
  have p_7 := hp_3
  refine lv_aload_n hx hb dL_law_609 rfl (lv_at hl 1 rfl) ?_
  refine lw_argC hx hb hX hl hy0 hy8 hL 1 (by decide) (by decide) dL_law_610 dL_law_611 dL_law_612 dL_law_613 dL_law_614 ?_
  refine lv_pc (pc2 := 615) rfl ?_
  refine lv_pc (pc2 := 615) rfl ?_
  refine lw_argC hx hb hX hl hy0 hy8 hL 2 (by decide) (by decide) dL_law_615 dL_law_616 dL_law_617 dL_law_618 dL_law_619 ?_
  refine lv_pc (pc2 := 620) rfl ?_
  refine lw_argC hx hb hX hl hy0 hy8 hL 3 (by decide) (by decide) dL_law_620 dL_law_621 dL_law_622 dL_law_623 dL_law_624 ?_
  refine lv_pc (pc2 := 625) rfl ?_
  obtain ⟨_, at_8⟩ := rcv40 hM kt2
  refine lx_calli (W.runV (As := [.int (xs (yi.toInt + 1).toNat), .int (xs (yi.toInt + 2).toNat), .int (xs (yi.toInt + 3).toNat)]) (rest := [.int r_2]) ⟨hx, hb, hml, hown, hts⟩ (m_X10_see l D tm cI cL cC gC gE gW gA gT gI gS gM K F S N gH gJ ge gk gf gs gg gr RN gb rV rN (h0 + 92) (xs (yi.toInt + 1).toNat) (xs (yi.toInt + 2).toNat) (xs (yi.toInt + 3).toNat) uqm hC0 hC4 hI0 hI4 hH0 hH9 hm0 hm3 hO0 hW hoR kt2) (cwV 3 hts gu_L_X10_see rfl rfl rfl (by decide +kernel) ⟨Nat.le_of_ble_eq_true rfl, Nat.le_of_ble_eq_true rfl⟩) (tP_V hM hE at_8 rfl) rfl rfl hl.1 rfl (lv_room (Nat.le_of_ble_eq_true rfl)) dL_law_625 ⟨hcl, hsl⟩) hS rfl hm00 (fun r_9 rN_12 H locs hp_10 hM hS o_11 => ?_)
  replace hX := hX.kept (o_11 b (by rw [hm00 b hbl]; rfl))
  replace hG := tG.keptW hG o_11 (fun q h => by rw [hT0.2.2.2.1 q h]; rfl)
  replace hM : tG D (mF cI cL cC gC gE gW gA gT gI gS gM K F S N gH gJ ge gk gf gs gg gr RN gb rV rN_12) tm H := hM
  have hp_10 : (seeR (gb.toInt = 0 ∨ (rV (xs (yi.toInt + 1).toNat).toInt.toNat).toInt < 0) rN (xs (yi.toInt + 1).toNat) (xs (yi.toInt + 2).toNat) (xs (yi.toInt + 3).toNat) r_9 rN_12) := hp_10
  have p_14 := hp_10
  refine lv_icmp_eq (tgt := 1409) hx hb dL_law_628 (by decide) (fun _ => ?_) (fun q => absurd ((seeR.rel p_7 p_14 (relB.sno hrB heV) heV).1) q)
  exact kx H locs tx _ _ _ _ _ _ _ _ _ _ _ _ _ _ _ _ _ _ _ _ _ _ _ _ _ _ _ _ _ _ _ _ _ _ _ _ _ _ _ _ _ _ _ _ _ _ _ _ _ _ _ hT0 hG hM hC0 hC4 hP0 hP4 hTg mg0 mg4 dg0 dg4 og0 og4 xk0 xk3 hI0 hI4 hH0 hH9 hm0 hm3 hO0 hW hoR (relB.step hrB smC.rf smR.rf) hoC (seeR.rel p_7 p_14 (relB.sno hrB heV) heV).2 (by omega) hS hX
