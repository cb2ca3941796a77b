theorem dL_law_633 : decode cL_law 633 = .ok (.aload_n 1, 1) := by decide +kernel
theorem dL_law_634 : decode cL_law 634 = .ok (.aload_n 0, 1) := by decide +kernel
theorem dL_law_635 : decode cL_law 635 = .ok (.iload_n 3, 1) := by decide +kernel
theorem dL_law_636 : decode cL_law 636 = .ok (.iconst 1, 1) := by decide +kernel
theorem dL_law_637 : decode cL_law 637 = .ok (.iadd, 1) := by decide +kernel
theorem dL_law_638 : decode cL_law 638 = .ok (.iaload, 1) := by decide +kernel
theorem dL_law_639 : decode cL_law 639 = .ok (.invokevirtual 83, 3) := by decide +kernel
theorem dL_law_642 : decode cL_law 642 = .ok (.pop, 1) := by decide +kernel
theorem dL_law_643 : decode cL_law 643 = .ok (.aload_n 2, 1) := by decide +kernel
theorem dL_law_644 : decode cL_law 644 = .ok (.aload_n 0, 1) := by decide +kernel
theorem dL_law_645 : decode cL_law 645 = .ok (.iload_n 3, 1) := by decide +kernel
theorem dL_law_646 : decode cL_law 646 = .ok (.iconst 1, 1) := by decide +kernel
theorem dL_law_647 : decode cL_law 647 = .ok (.iadd, 1) := by decide +kernel
theorem dL_law_648 : decode cL_law 648 = .ok (.iaload, 1) := by decide +kernel
theorem dL_law_649 : decode cL_law 649 = .ok (.invokevirtual 86, 3) := by decide +kernel
theorem dL_law_652 : decode cL_law 652 = .ok (.pop, 1) := by decide +kernel
theorem dL_law_653 : decode cL_law 653 = .ok (.goto 756, 3) := by decide +kernel
set_option maxRecDepth 20000 in
theorem gu_L_hX9_ends : GoodIn wsL_law (wsV RL 83 RX9 yX9_ends uhX9_ends) := goodIn_r _ [664, 665, 666, 2, 667, 668, 168, 169, 2, 43, 669, 170, 1064, 1065, 1066, 1067, 1068, 1069, 1070, 1071, 1072, 1073, 1074, 1075, 1076, 1077, 1078, 1079, 1080, 1081, 1138, 1139, 1140, 1141] rfl (by decide +kernel)
set_option maxRecDepth 20000 in
theorem gu_L_X10_ends : GoodIn wsL_law (wsV RL 86 RX10 yX10_ends uX10_ends) := goodIn_r _ [670, 671, 672, 5, 673, 674, 182, 183, 5, 675, 184, 1082, 1083, 1084, 1085, 1086, 1087, 1088, 1089, 1090, 1091, 1092, 1093, 1094, 1095, 1096, 1097, 1098, 1099, 1100, 1101, 1102, 1103, 1104, 1105, 1106, 1107, 1108, 1109, 1110, 1111, 1112, 1113, 1114, 1115, 1116, 1117] rfl (by decide +kernel)
set_option maxHeartbeats 4000000 in
set_option maxRecDepth 100000 in
theorem lc_15 {p : Program} {l : Launch} {e : Env} {s : State} {m : MethodId} {below : List Frame} {meth : Method} {c : Code} {cells slots : Nat} {Q : State → Prop} {b h0 L : Nat} {xs : Nat → Int32} {yi : Int32} {D : va_G} {cI cL cC : ClassId} {tx tm : Nat → Nat} {H : Heap} {locs : List Loc} {ls : Array Slot} {gC : Int32} {gP : Int32} {gT : Nat → Int32} {gR : Nat → Int32} {mm : Int32} {ms : Int32} {mg : Int32} {mL : Nat → Int32} {mQ : Nat → Int32} {mZ : Nat → Int32} {dm : Int32} {ds : Int32} {dg : Int32} {dL : Nat → Int32} {dQ : Nat → Int32} {dZ : Nat → Int32} {om : Int32} {os : Int32} {og : Int32} {oL : Nat → Int32} {oQ : Nat → Int32} {oZ : Nat → Int32} {gB : Int32} {gO : Int32} {xk : Int32} {gE : Int32} {gV : Nat → Int32} {gU : Nat → Int32} {gN : Nat → Int32} {G : Nat} {gW : Nat → Int32} {gA : Nat → Int32} {gI : Int32} {gS : Int32} {gM : Int32} {K : Nat → Int32} {F : Nat → Int32} {S : Nat → Int32} {N : Nat → Int32} {gH : Int} {gJ : Int} {ge : Int32} {gk : Int32} {gf : Int32} {gs : Int32} {gg : Int32} {gr : Int32} {RN : Nat → Int32} {gb : Int32} {rV : Nat → Int32} {rN : Nat → Int32} (hx : p.tables.exec = Jvm.exec) (hb : c.code = cL_law) (hml : c.maxLocals = 4) (hown : s.vm.findClass RL = some m.cls) (hts : ∀ w ∈ wsL_law, w.before #[Value.ref b] s = true) (hE : EV D cI cL cC s) (hbl : b < h0) (hT0 : cT h0 tm tx) (hG : tG D (hF cI cL cC gC gP gT gR mm ms mg mL mQ mZ dm ds dg dL dQ dZ om os og oL oQ oZ gB gO xk gE gV gU gN G gW gA) tx H) (hM : tG D (mF cI cL cC gC gE gW gA gT gI gS gM K F S N gH gJ ge gk gf gs gg gr RN gb rV rN) tm H) (kt2 : tm (h0 + 92) = 40) (hm00 : ∀ q : Nat, q < h0 → tm q = 0) (uqm : ∀ b c : Nat, tm b = tm c → tm b ≠ 0 → b = c) (hC0 : 0 ≤ gC.toInt) (hC4 : gC.toInt ≤ 400) (hP0 : 0 ≤ gP.toInt) (hP4 : gP.toInt ≤ 400) (hTg : gBd 400 0 255 gT) (mg0 : 0 ≤ mg.toInt) (mg4 : mg.toInt ≤ 4) (dg0 : 0 ≤ dg.toInt) (dg4 : dg.toInt ≤ 4) (og0 : 0 ≤ og.toInt) (og4 : og.toInt ≤ 4) (xk0 : 0 ≤ xk.toInt) (xk3 : xk.toInt ≤ 3) (hI0 : 0 ≤ gI.toInt) (hI4 : gI.toInt ≤ 40) (hH0 : 0 ≤ gH) (hH9 : gH ≤ 96) (hm0 : 0 ≤ gM.toInt) (hm3 : gM.toInt ≤ 3) (hO0 : okM K F S N 0 gI.toInt) (hW : swM gS K F S N gI.toInt) (hoR : othR gb gS gI K F) (hrB : relB gB gb mm gI mL mQ K F) (hoC : othC gB gO mm om mL mQ oL oQ) (heV : eqV gV rV gN rN) (hGb : (G : Int) ≤ 3072 * yi.toInt) (hy0 : 0 ≤ yi.toInt) (hy8 : yi.toInt + 8 ≤ (L : Int)) (hL : L ≤ 4096) (hS : cF h0 s.heap H locs) (hX : va_X b L xs s H) (hl : lv_has ls 4 [(3, .int yi), (2, .ref (h0 + 92)), (1, .ref h0), (0, .ref b)]) (hcl : cells ≤ 600000) (hsl : slots ≤ 7302250) (kx : ∀ (H1 : Heap) (locs1 : List Loc) (tx' : Nat → Nat) (gC' : Int32) (gP' : Int32) (gT' : Nat → Int32) (gR' : Nat → Int32) (mm' : Int32) (ms' : Int32) (mg' : Int32) (mL' : Nat → Int32) (mQ' : Nat → Int32) (mZ' : Nat → Int32) (dm' : Int32) (ds' : Int32) (dg' : Int32) (dL' : Nat → Int32) (dQ' : Nat → Int32) (dZ' : Nat → Int32) (om' : Int32) (os' : Int32) (og' : Int32) (oL' : Nat → Int32) (oQ' : Nat → Int32) (oZ' : Nat → Int32) (gB' : Int32) (gO' : Int32) (xk' : Int32) (gE' : Int32) (gV' : Nat → Int32) (gU' : Nat → Int32) (gN' : Nat → Int32) (G' : Nat) (gW' : Nat → Int32) (gA' : Nat → Int32) (gI' : Int32) (gS' : Int32) (gM' : Int32) (K' : Nat → Int32) (F' : Nat → Int32) (S' : Nat → Int32) (N' : Nat → Int32) (gH' : Int) (gJ' : Int) (ge' : Int32) (gk' : Int32) (gf' : Int32) (gs' : Int32) (gg' : Int32) (gr' : Int32) (RN' : Nat → Int32) (gb' : Int32) (rV' : Nat → Int32) (rN' : Nat → Int32), cT h0 tm tx' → tG D (hF cI cL cC gC' gP' gT' gR' mm' ms' mg' mL' mQ' mZ' dm' ds' dg' dL' dQ' dZ' om' os' og' oL' oQ' oZ' gB' gO' xk' gE' gV' gU' gN' G' gW' gA') tx' H1 → tG D (mF cI cL cC gC' gE' gW' gA' gT' gI' gS' gM' K' F' S' N' gH' gJ' ge' gk' gf' gs' gg' gr' RN' gb' rV' rN') tm H1 → (0 ≤ gC'.toInt) → (gC'.toInt ≤ 400) → (0 ≤ gP'.toInt) → (gP'.toInt ≤ 400) → (gBd 400 0 255 gT') → (0 ≤ mg'.toInt) → (mg'.toInt ≤ 4) → (0 ≤ dg'.toInt) → (dg'.toInt ≤ 4) → (0 ≤ og'.toInt) → (og'.toInt ≤ 4) → (0 ≤ xk'.toInt) → (xk'.toInt ≤ 3) → (0 ≤ gI'.toInt) → (gI'.toInt ≤ 40) → (0 ≤ gH') → (gH' ≤ 96) → (0 ≤ gM'.toInt) → (gM'.toInt ≤ 3) → (okM K' F' S' N' 0 gI'.toInt) → (swM gS' K' F' S' N' gI'.toInt) → (othR gb' gS' gI' K' F') → (relB gB' gb' mm' gI' mL' mQ' K' F') → (othC gB' gO' mm' om' mL' mQ' oL' oQ') → (eqV gV' rV' gN' rN') → (G' : Int) ≤ 3072 * yi.toInt + 24576 → cF h0 s.heap H1 locs1 → va_X b L xs s H1 → W p l e room_1 s m #[Value.ref b] below meth c H1 locs1 cells slots Q (F0 m 1409 ls [])) : W p l e room_1 s m #[Value.ref b] below meth c H locs cells slots Q (F0 m 633 ls []) := by
  refine lv_aload_n hx hb dL_law_633 rfl (lv_at hl 2 rfl) ?_
  refine lw_argC hx hb hX hl hy0 hy8 hL 1 (by decide) (by decide) dL_law_634 dL_law_635 dL_law_636 dL_law_637 dL_law_638 ?_
  refine lv_pc (pc2 := 639) rfl ?_
  obtain ⟨_, at_1⟩ := rcvH hG hT0.1
  refine lx_calli (W.runV (As := [.int (xs (yi.toInt + 1).toNat)]) (rest := []) ⟨hx, hb, hml, hown, hts⟩ (h_X9_ends l D tx cI cL cC gC gP gT gR mm ms mg mL mQ mZ dm ds dg dL dQ dZ om os og oL oQ oZ gB gO xk gE gV gU gN G gW gA h0 (xs (yi.toInt + 1).toNat) hT0.2.2.2.2 hC0 hC4 hP0 hP4 hTg mg0 mg4 dg0 dg4 og0 og4 xk0 xk3 hT0.1) (cwV 1 hts gu_L_hX9_ends rfl rfl rfl (by decide +kernel) ⟨Nat.le_of_ble_eq_true rfl, Nat.le_of_ble_eq_true rfl⟩) (tP_V hG hE at_1 rfl) rfl rfl hl.1 rfl (lv_room (Nat.le_of_ble_eq_true rfl)) dL_law_639 ⟨hcl, hsl⟩) hS rfl hT0.2.1 (fun r_2 gE_5 H locs hp_3 hG hS o_4 => ?_)
  replace hX := hX.kept (o_4 b (by rw [hT0.2.1 b hbl]; rfl))
  replace hM := tG.keptW hM o_4 (fun q h => by rw [hT0.2.2.1 q h]; rfl)
  replace hG : tG D (hF cI cL cC gC gP gT gR mm ms mg mL mQ mZ dm ds dg dL dQ dZ om os og oL oQ oZ gB gO xk gE_5 gV gU gN G gW gA) tx H := hG
  have hp_3 : r_2 = aen gE (xs (yi.toInt + 1).toNat) ∧ gE_5 = nen gE (xs (yi.toInt + 1).toNat) := hp_3
  obtain ⟨p_7, p_8⟩ := hp_3
  refine lv_pop hx hb dL_law_642 rfl ?_
  refine lv_aload_n hx hb dL_law_643 rfl (lv_at hl 1 rfl) ?_
  refine lw_argC hx hb hX hl hy0 hy8 hL 1 (by decide) (by decide) dL_law_644 dL_law_645 dL_law_646 dL_law_647 dL_law_648 ?_
  refine lv_pc (pc2 := 649) rfl ?_
  obtain ⟨_, at_9⟩ := rcv40 hM kt2
  refine lx_calli (W.runV (As := [.int (xs (yi.toInt + 1).toNat)]) (rest := []) ⟨hx, hb, hml, hown, hts⟩ (m_X10_ends l D tm cI cL cC gC gE gW gA gT gI gS gM K F S N gH gJ ge gk gf gs gg gr RN gb rV rN (h0 + 92) (xs (yi.toInt + 1).toNat) uqm hC0 hC4 hI0 hI4 hH0 hH9 hm0 hm3 hO0 hW hoR kt2) (cwV 1 hts gu_L_X10_ends rfl rfl rfl (by decide +kernel) ⟨Nat.le_of_ble_eq_true rfl, Nat.le_of_ble_eq_true rfl⟩) (tP_V hM hE at_9 rfl) rfl rfl hl.1 rfl (lv_room (Nat.le_of_ble_eq_true rfl)) dL_law_649 ⟨hcl, hsl⟩) hS rfl hm00 (fun r_10 gE_13 H locs hp_11 hM hS o_12 => ?_)
  replace hX := hX.kept (o_12 b (by rw [hm00 b hbl]; rfl))
  replace hG := tG.keptW hG o_12 (fun q h => by rw [hT0.2.2.2.1 q h]; rfl)
  replace hM : tG D (mF cI cL cC gC gE_13 gW gA gT gI gS gM K F S N gH gJ ge gk gf gs gg gr RN gb rV rN) tm H := hM
  have hp_11 : r_10 = aen gE (xs (yi.toInt + 1).toNat) ∧ gE_13 = nen gE (xs (yi.toInt + 1).toNat) := hp_11
  obtain ⟨p_15, p_16⟩ := hp_11
  refine lv_pc (pc2 := 652) rfl ?_
  refine lv_pop hx hb dL_law_652 rfl ?_
  refine lv_goto (tgt := 1409) hx hb dL_law_653 (by decide) ?_
  subst p_8
  subst p_16
  exact kx H locs tx _ _ _ _ _ _ _ _ _ _ _ _ _ _ _ _ _ _ _ _ _ _ _ _ _ _ _ _ _ _ _ _ _ _ _ _ _ _ _ _ _ _ _ _ _ _ _ _ _ _ _ hT0 hG hM hC0 hC4 hP0 hP4 hTg mg0 mg4 dg0 dg4 og0 og4 xk0 xk3 hI0 hI4 hH0 hH9 hm0 hm3 hO0 hW hoR (relB.step hrB smC.rf smR.rf) hoC heV (by omega) hS hX
theorem dL_law_656 : decode cL_law 656 = .ok (.aload_n 1, 1) := by decide +kernel
theorem dL_law_657 : decode cL_law 657 = .ok (.aload_n 0, 1) := by decide +kernel
theorem dL_law_658 : decode cL_law 658 = .ok (.iload_n 3, 1) := by decide +kernel
theorem dL_law_659 : decode cL_law 659 = .ok (.iconst 1, 1) := by decide +kernel
theorem dL_law_660 : decode cL_law 660 = .ok (.iadd, 1) := by decide +kernel
theorem dL_law_661 : decode cL_law 661 = .ok (.iaload, 1) := by decide +kernel
theorem dL_law_662 : decode cL_law 662 = .ok (.aload_n 0, 1) := by decide +kernel
theorem dL_law_663 : decode cL_law 663 = .ok (.iload_n 3, 1) := by decide +kernel
theorem dL_law_664 : decode cL_law 664 = .ok (.iconst 2, 1) := by decide +kernel
theorem dL_law_665 : decode cL_law 665 = .ok (.iadd, 1) := by decide +kernel
theorem dL_law_666 : decode cL_law 666 = .ok (.iaload, 1) := by decide +kernel
theorem dL_law_667 : decode cL_law 667 = .ok (.aload_n 0, 1) := by decide +kernel
theorem dL_law_668 : decode cL_law 668 = .ok (.iload_n 3, 1) := by decide +kernel
theorem dL_law_669 : decode cL_law 669 = .ok (.iconst 3, 1) := by decide +kernel
theorem dL_law_670 : decode cL_law 670 = .ok (.iadd, 1) := by decide +kernel
theorem dL_law_671 : decode cL_law 671 = .ok (.iaload, 1) := by decide +kernel
theorem dL_law_672 : decode cL_law 672 = .ok (.aload_n 0, 1) := by decide +kernel
theorem dL_law_673 : decode cL_law 673 = .ok (.iload_n 3, 1) := by decide +kernel
theorem dL_law_674 : decode cL_law 674 = .ok (.iconst 4, 1) := by decide +kernel
theorem dL_law_675 : decode cL_law 675 = .ok (.iadd, 1) := by decide +kernel
theorem dL_law_676 : decode cL_law 676 = .ok (.iaload, 1) := by decide +kernel
theorem dL_law_677 : decode cL_law 677 = .ok (.aload_n 0, 1) := by decide +kernel
theorem dL_law_678 : decode cL_law 678 = .ok (.iload_n 3, 1) := by decide +kernel
theorem dL_law_679 : decode cL_law 679 = .ok (.iconst 5, 1) := by decide +kernel
theorem dL_law_680 : decode cL_law 680 = .ok (.iadd, 1) := by decide +kernel
theorem dL_law_681 : decode cL_law 681 = .ok (.iaload, 1) := by decide +kernel
theorem dL_law_682 : decode cL_law 682 = .ok (.aload_n 0, 1) := by decide +kernel
theorem dL_law_683 : decode cL_law 683 = .ok (.iload_n 3, 1) := by decide +kernel
theorem dL_law_684 : decode cL_law 684 = .ok (.bipush 6, 2) := by decide +kernel
theorem dL_law_686 : decode cL_law 686 = .ok (.iadd, 1) := by decide +kernel
theorem dL_law_687 : decode cL_law 687 = .ok (.iaload, 1) := by decide +kernel
theorem dL_law_688 : decode cL_law 688 = .ok (.invokevirtual 87, 3) := by decide +kernel
theorem dL_law_691 : decode cL_law 691 = .ok (.pop, 1) := by decide +kernel
theorem dL_law_692 : decode cL_law 692 = .ok (.aload_n 2, 1) := by decide +kernel
theorem dL_law_693 : decode cL_law 693 = .ok (.aload_n 0, 1) := by decide +kernel
theorem dL_law_694 : decode cL_law 694 = .ok (.iload_n 3, 1) := by decide +kernel
theorem dL_law_695 : decode cL_law 695 = .ok (.iconst 1, 1) := by decide +kernel
theorem dL_law_696 : decode cL_law 696 = .ok (.iadd, 1) := by decide +kernel
theorem dL_law_697 : decode cL_law 697 = .ok (.iaload, 1) := by decide +kernel
theorem dL_law_698 : decode cL_law 698 = .ok (.aload_n 0, 1) := by decide +kernel
theorem dL_law_699 : decode cL_law 699 = .ok (.iload_n 3, 1) := by decide +kernel
theorem dL_law_700 : decode cL_law 700 = .ok (.iconst 2, 1) := by decide +kernel
theorem dL_law_701 : decode cL_law 701 = .ok (.iadd, 1) := by decide +kernel
theorem dL_law_702 : decode cL_law 702 = .ok (.iaload, 1) := by decide +kernel
theorem dL_law_703 : decode cL_law 703 = .ok (.aload_n 0, 1) := by decide +kernel
theorem dL_law_704 : decode cL_law 704 = .ok (.iload_n 3, 1) := by decide +kernel
theorem dL_law_705 : decode cL_law 705 = .ok (.iconst 3, 1) := by decide +kernel
theorem dL_law_706 : decode cL_law 706 = .ok (.iadd, 1) := by decide +kernel
theorem dL_law_707 : decode cL_law 707 = .ok (.iaload, 1) := by decide +kernel
theorem dL_law_708 : decode cL_law 708 = .ok (.aload_n 0, 1) := by decide +kernel
theorem dL_law_709 : decode cL_law 709 = .ok (.iload_n 3, 1) := by decide +kernel
theorem dL_law_710 : decode cL_law 710 = .ok (.iconst 4, 1) := by decide +kernel
theorem dL_law_711 : decode cL_law 711 = .ok (.iadd, 1) := by decide +kernel
theorem dL_law_712 : decode cL_law 712 = .ok (.iaload, 1) := by decide +kernel
theorem dL_law_713 : decode cL_law 713 = .ok (.aload_n 0, 1) := by decide +kernel
theorem dL_law_714 : decode cL_law 714 = .ok (.iload_n 3, 1) := by decide +kernel
theorem dL_law_715 : decode cL_law 715 = .ok (.iconst 5, 1) := by decide +kernel
theorem dL_law_716 : decode cL_law 716 = .ok (.iadd, 1) := by decide +kernel
theorem dL_law_717 : decode cL_law 717 = .ok (.iaload, 1) := by decide +kernel
theorem dL_law_718 : decode cL_law 718 = .ok (.aload_n 0, 1) := by decide +kernel
theorem dL_law_719 : decode cL_law 719 = .ok (.iload_n 3, 1) := by decide +kernel
theorem dL_law_720 : decode cL_law 720 = .ok (.bipush 6, 2) := by decide +kernel
theorem dL_law_722 : decode cL_law 722 = .ok (.iadd, 1) := by decide +kernel
theorem dL_law_723 : decode cL_law 723 = .ok (.iaload, 1) := by decide +kernel
theorem dL_law_724 : decode cL_law 724 = .ok (.invokevirtual 91, 3) := by decide +kernel
theorem dL_law_727 : decode cL_law 727 = .ok (.pop, 1) := by decide +kernel
theorem dL_law_728 : decode cL_law 728 = .ok (.goto 681, 3) := by decide +kernel
set_option maxRecDepth 20000 in
theorem gu_L_X9_knob : GoodIn wsL_law (wsV RL 87 RX9 yX9_knob uX9_knob) := goodIn_r _ [676, 677, 678, 2, 679, 681, 682, 2, 400, 274, 168, 169, 680, 401, 402, 403, 20, 684, 685, 686, 19, 47, 689, 690, 691, 46, 683, 275, 170, 404, 23, 330, 687, 352, 353, 354, 688, 226, 217, 355, 66, 227, 692, 106, 107, 108, 109, 110, 1064, 1065, 1066, 1067, 1068, 1069, 1070, 1071, 1072, 1073, 1074, 1075, 1076, 1077, 1078, 1079, 1080, 1081, 1122, 1123, 1124, 1125, 1126, 1127, 1142, 1143, 1144, 1145, 1146] rfl (by decide +kernel)
set_option maxRecDepth 20000 in
theorem gu_L_X10_knob : GoodIn wsL_law (wsV RL 91 RX10 yX10_knob uX10_knob) := goodIn_r _ [693, 694, 695, 5, 696, 182, 183, 5, 410, 697, 316, 698, 370, 365, 140, 148, 149, 150, 151, 152, 184, 1082, 1083, 1084, 1085, 1086, 1087, 1088, 1089, 1090, 1091, 1092, 1093, 1094, 1095, 1096, 1097, 1098, 1099, 1100, 1101, 1102, 1103, 1104, 1105, 1106, 1107, 1108, 1109, 1110, 1111, 1112, 1113, 1114, 1115, 1116, 1117] rfl (by decide +kernel)
set_option maxHeartbeats 4000000 in
set_option maxRecDepth 100000 in
theorem lc_16 {p : Program} {l : Launch} {e : Env} {s : State} {m : MethodId} {below : List Frame} {meth : Method} {c : Code} {cells slots : Nat} {Q : State → Prop} {b h0 L : Nat} {xs : Nat → Int32} {yi : Int32} {D : va_G} {cI cL cC : ClassId} {tx tm : Nat → Nat} {H : Heap} {locs : List Loc} {ls : Array Slot} {gC : Int32} {gP : Int32} {gT : Nat → Int32} {gR : Nat → Int32} {mm : Int32} {ms : Int32} {mg : Int32} {mL : Nat → Int32} {mQ : Nat → Int32} {mZ : Nat → Int32} {dm : Int32} {ds : Int32} {dg : Int32} {dL : Nat → Int32} {dQ : Nat → Int32} {dZ : Nat → Int32} {om : Int32} {os : Int32} {og : Int32} {oL : Nat → Int32} {oQ : Nat → Int32} {oZ : Nat → Int32} {gB : Int32} {gO : Int32} {xk : Int32} {gE : Int32} {gV : Nat → Int32} {gU : Nat → Int32} {gN : Nat → Int32} {G : Nat} {gW : Nat → Int32} {gA : Nat → Int32} {gI : Int32} {gS : Int32} {gM : Int32} {K : Nat → Int32} {F : Nat → Int32} {S : Nat → Int32} {N : Nat → Int32} {gH : Int} {gJ : Int} {ge : Int32} {gk : Int32} {gf : Int32} {gs : Int32} {gg : Int32} {gr : Int32} {RN : Nat → Int32} {gb : Int32} {rV : Nat → Int32} {rN : Nat → Int32} (hx : p.tables.exec = Jvm.exec) (hb : c.code = cL_law) (hml : c.maxLocals = 4) (hown : s.vm.findClass RL = some m.cls) (hts : ∀ w ∈ wsL_law, w.before #[Value.ref b] s = true) (hE : EV D cI cL cC s) (hbl : b < h0) (hT0 : cT h0 tm tx) (hG : tG D (hF cI cL cC gC gP gT gR mm ms mg mL mQ mZ dm ds dg dL dQ dZ om os og oL oQ oZ gB gO xk gE gV gU gN G gW gA) tx H) (hM : tG D (mF cI cL cC gC gE gW gA gT gI gS gM K F S N gH gJ ge gk gf gs gg gr RN gb rV rN) tm H) (kt2 : tm (h0 + 92) = 40) (hm00 : ∀ q : Nat, q < h0 → tm q = 0) (uqm : ∀ b c : Nat, tm b = tm c → tm b ≠ 0 → b = c) (hC0 : 0 ≤ gC.toInt) (hC4 : gC.toInt ≤ 400) (hP0 : 0 ≤ gP.toInt) (hP4 : gP.toInt ≤ 400) (hTg : gBd 400 0 255 gT) (mg0 : 0 ≤ mg.toInt) (mg4 : mg.toInt ≤ 4) (dg0 : 0 ≤ dg.toInt) (dg4 : dg.toInt ≤ 4) (og0 : 0 ≤ og.toInt) (og4 : og.toInt ≤ 4) (xk0 : 0 ≤ xk.toInt) (xk3 : xk.toInt ≤ 3) (hI0 : 0 ≤ gI.toInt) (hI4 : gI.toInt ≤ 40) (hH0 : 0 ≤ gH) (hH9 : gH ≤ 96) (hm0 : 0 ≤ gM.toInt) (hm3 : gM.toInt ≤ 3) (hO0 : okM K F S N 0 gI.toInt) (hW : swM gS K F S N gI.toInt) (hoR : othR gb gS gI K F) (hrB : relB gB gb mm gI mL mQ K F) (hoC : othC gB gO mm om mL mQ oL oQ) (heV : eqV gV rV gN rN) (hGb : (G : Int) ≤ 3072 * yi.toInt) (hy0 : 0 ≤ yi.toInt) (hy8 : yi.toInt + 8 ≤ (L : Int)) (hL : L ≤ 4096) (hS : cF h0 s.heap H locs) (hX : va_X b L xs s H) (hl : lv_has ls 4 [(3, .int yi), (2, .ref (h0 + 92)), (1, .ref h0), (0, .ref b)]) (hcl : cells ≤ 600000) (hsl : slots ≤ 7302250) (kx : ∀ (H1 : Heap) (locs1 : List Loc) (tx' : Nat → Nat) (gC' : Int32) (gP' : Int32) (gT' : Nat → Int32) (gR' : Nat → Int32) (mm' : Int32) (ms' : Int32) (mg' : Int32) (mL' : Nat → Int32) (mQ' : Nat → Int32) (mZ' : Nat → Int32) (dm' : Int32) (ds' : Int32) (dg' : Int32) (dL' : Nat → Int32) (dQ' : Nat → Int32) (dZ' : Nat → Int32) (om' : Int32) (os' : Int32) (og' : Int32) (oL' : Nat → Int32) (oQ' : Nat → Int32) (oZ' : Nat → Int32) (gB' : Int32) (gO' : Int32) (xk' : Int32) (gE' : Int32) (gV' : Nat → Int32) (gU' : Nat → Int32) (gN' : Nat → Int32) (G' : Nat) (gW' : Nat → Int32) (gA' : Nat → Int32) (gI' : Int32) (gS' : Int32) (gM' : Int32) (K' : Nat → Int32) (F' : Nat → Int32) (S' : Nat → Int32) (N' : Nat → Int32) (gH' : Int) (gJ' : Int) (ge' : Int32) (gk' : Int32) (gf' : Int32) (gs' : Int32) (gg' : Int32) (gr' : Int32) (RN' : Nat → Int32) (gb' : Int32) (rV' : Nat → Int32) (rN' : Nat → Int32), cT h0 tm tx' → tG D (hF cI cL cC gC' gP' gT' gR' mm' ms' mg' mL' mQ' mZ' dm' ds' dg' dL' dQ' dZ' om' os' og' oL' oQ' oZ' gB' gO' xk' gE' gV' gU' gN' G' gW' gA') tx' H1 → tG D (mF cI cL cC gC' gE' gW' gA' gT' gI' gS' gM' K' F' S' N' gH' gJ' ge' gk' gf' gs' gg' gr' RN' gb' rV' rN') tm H1 → (0 ≤ gC'.toInt) → (gC'.toInt ≤ 400) → (0 ≤ gP'.toInt) → (gP'.toInt ≤ 400) → (gBd 400 0 255 gT') → (0 ≤ mg'.toInt) → (mg'.toInt ≤ 4) → (0 ≤ dg'.toInt) → (dg'.toInt ≤ 4) → (0 ≤ og'.toInt) → (og'.toInt ≤ 4) → (0 ≤ xk'.toInt) → (xk'.toInt ≤ 3) → (0 ≤ gI'.toInt) → (gI'.toInt ≤ 40) → (0 ≤ gH') → (gH' ≤ 96) → (0 ≤ gM'.toInt) → (gM'.toInt ≤ 3) → (okM K' F' S' N' 0 gI'.toInt) → (swM gS' K' F' S' N' gI'.toInt) → (othR gb' gS' gI' K' F') → (relB gB' gb' mm' gI' mL' mQ' K' F') → (othC gB' gO' mm' om' mL' mQ' oL' oQ') → (eqV gV' rV' gN' rN') → (G' : Int) ≤ 3072 * yi.toInt + 24576 → cF h0 s.heap H1 locs1 → va_X b L xs s H1 → W p l e room_1 s m #[Value.ref b] below meth c H1 locs1 cells slots Q (F0 m 1409 ls [])) : W p l e room_1 s m #[Value.ref b] below meth c H locs cells slots Q (F0 m 656 ls []) := by
  refine lv_aload_n hx hb dL_law_656 rfl (lv_at hl 2 rfl) ?_
  refine lw_argC hx hb hX hl hy0 hy8 hL 1 (by decide) (by decide) dL_law_657 dL_law_658 dL_law_659 dL_law_660 dL_law_661 ?_
  refine lv_pc (pc2 := 662) rfl ?_
  refine lw_argC hx hb hX hl hy0 hy8 hL 2 (by decide) (by decide) dL_law_662 dL_law_663 dL_law_664 dL_law_665 dL_law_666 ?_
  refine lv_pc (pc2 := 667) rfl ?_
  refine lw_argC hx hb hX hl hy0 hy8 hL 3 (by decide) (by decide) dL_law_667 dL_law_668 dL_law_669 dL_law_670 dL_law_671 ?_
  refine lv_pc (pc2 := 672) rfl ?_
  refine lw_argC hx hb hX hl hy0 hy8 hL 4 (by decide) (by decide) dL_law_672 dL_law_673 dL_law_674 dL_law_675 dL_law_676 ?_
  refine lv_pc (pc2 := 677) rfl ?_
  refine lw_argC hx hb hX hl hy0 hy8 hL 5 (by decide) (by decide) dL_law_677 dL_law_678 dL_law_679 dL_law_680 dL_law_681 ?_
  refine lv_pc (pc2 := 682) rfl ?_
  refine lw_argB hx hb hX hl hy0 hy8 hL 6 (by decide) (by decide) dL_law_682 dL_law_683 dL_law_684 dL_law_686 dL_law_687 ?_
  refine lv_pc (pc2 := 688) rfl ?_
  refine lv_pc (pc2 := 688) rfl ?_
  obtain ⟨_, at_1⟩ := rcvH hG hT0.1
  have hV_5 : tG D (gF cI cL cC gC gE G gW gA) (fun q => cwA (tx q)) H := tG.vw hG (cwA_vw ⟨by omega, by omega⟩ ⟨by omega, by omega, by omega, by omega⟩ ⟨by omega, by omega⟩ ⟨by omega, by omega⟩ ⟨by omega, by omega⟩) rfl
  refine lw_calli (W.runV (As := [.int (xs (yi.toInt + 1).toNat), .int (xs (yi.toInt + 2).toNat), .int (xs (yi.toInt + 3).toNat), .int (xs (yi.toInt + 4).toNat), .int (xs (yi.toInt + 5).toNat), .int (xs (yi.toInt + 6).toNat)]) (rest := []) ⟨hx, hb, hml, hown, hts⟩ (s_X9_knob l D (fun q => cwA (tx q)) cI cL cC gC gE G gW gA h0 (xs (yi.toInt + 1).toNat) (xs (yi.toInt + 2).toNat) (xs (yi.toInt + 3).toNat) (xs (yi.toInt + 4).toNat) (xs (yi.toInt + 5).toNat) (xs (yi.toInt + 6).toNat) (by show cwA (tx h0) = 1; rw [hT0.1]; rfl)) (cwV 6 hts gu_L_X9_knob rfl rfl rfl (by decide +kernel) ⟨Nat.le_of_ble_eq_true rfl, Nat.le_of_ble_eq_true rfl⟩) (tP_V hV_5 hE at_1 rfl) rfl rfl hl.1 rfl (lv_room (Nat.le_of_ble_eq_true rfl)) dL_law_688 ⟨hcl, hsl⟩) hS rfl (fun q h => by show cwA (tx q) = 0; rw [hT0.2.1 q h]; rfl) (fun r_2 H locs hp_3 hV_6 hS o_4 => ?_)
  replace hX := hX.kept (o_4 b (by show wrKn (cwA (tx b)) = false; rw [hT0.2.1 b hbl]; rfl))
  replace hM := tG.keptW hM o_4 (fun q h => by show wrKn (cwA (tx q)) = false; rw [hT0.2.2.1 q h]; rfl)
  replace hG : tG D (hF cI cL cC gC gP gT gR mm ms mg mL mQ mZ dm ds dg dL dQ dZ om os og oL oQ oZ gB gO xk gE gV gU gN G gW gA) tx H := tG.unvw hG hV_6 o_4 rfl (cwA_wrKn_b (G := G)) (cwA_wrKn_o (by omega))
  clear hV_5 hV_6
  refine lv_pop hx hb dL_law_691 rfl ?_
  refine lv_aload_n hx hb dL_law_692 rfl (lv_at hl 1 rfl) ?_
  refine lw_argC hx hb hX hl hy0 hy8 hL 1 (by decide) (by decide) dL_law_693 dL_law_694 dL_law_695 dL_law_696 dL_law_697 ?_
  refine lv_pc (pc2 := 698) rfl ?_
  refine lw_argC hx hb hX hl hy0 hy8 hL 2 (by decide) (by decide) dL_law_698 dL_law_699 dL_law_700 dL_law_701 dL_law_702 ?_
  refine lv_pc (pc2 := 703) rfl ?_
  refine lw_argC hx hb hX hl hy0 hy8 hL 3 (by decide) (by decide) dL_law_703 dL_law_704 dL_law_705 dL_law_706 dL_law_707 ?_
  refine lv_pc (pc2 := 708) rfl ?_
  refine lw_argC hx hb hX hl hy0 hy8 hL 4 (by decide) (by decide) dL_law_708 dL_law_709 dL_law_710 dL_law_711 dL_law_712 ?_
  refine lv_pc (pc2 := 713) rfl ?_
  refine lw_argC hx hb hX hl hy0 hy8 hL 5 (by decide) (by decide) dL_law_713 dL_law_714 dL_law_715 dL_law_716 dL_law_717 ?_
  refine lv_pc (pc2 := 718) rfl ?_
  refine lv_pc (pc2 := 718) rfl ?_
  refine lw_argB hx hb hX hl hy0 hy8 hL 6 (by decide) (by decide) dL_law_718 dL_law_719 dL_law_720 dL_law_722 dL_law_723 ?_
  refine lv_pc (pc2 := 724) rfl ?_
  obtain ⟨_, at_7⟩ := rcv40 hM kt2
  refine lw_calli (W.runV (As := [.int (xs (yi.toInt + 1).toNat), .int (xs (yi.toInt + 2).toNat), .int (xs (yi.toInt + 3).toNat), .int (xs (yi.toInt + 4).toNat), .int (xs (yi.toInt + 5).toNat), .int (xs (yi.toInt + 6).toNat)]) (rest := []) ⟨hx, hb, hml, hown, hts⟩ (m_X10_knob l D tm cI cL cC gC gE gW gA gT gI gS gM K F S N gH gJ ge gk gf gs gg gr RN gb rV rN (h0 + 92) (xs (yi.toInt + 1).toNat) (xs (yi.toInt + 2).toNat) (xs (yi.toInt + 3).toNat) (xs (yi.toInt + 4).toNat) (xs (yi.toInt + 5).toNat) (xs (yi.toInt + 6).toNat) uqm hC0 hC4 hI0 hI4 hH0 hH9 hm0 hm3 hO0 hW hoR kt2) (cwV 6 hts gu_L_X10_knob rfl rfl rfl (by decide +kernel) ⟨Nat.le_of_ble_eq_true rfl, Nat.le_of_ble_eq_true rfl⟩) (tP_V hM hE at_7 rfl) rfl rfl hl.1 rfl (lv_room (Nat.le_of_ble_eq_true rfl)) dL_law_724 ⟨hcl, hsl⟩) hS rfl hm00 (fun r_8 H locs hp_9 hM hS o_10 => ?_)
  replace hX := hX.kept (o_10 b (by rw [hm00 b hbl]; rfl))
  replace hG := tG.keptW hG o_10 (fun q h => by rw [hT0.2.2.2.1 q h]; rfl)
  refine lv_pop hx hb dL_law_727 rfl ?_
  refine lv_goto (tgt := 1409) hx hb dL_law_728 (by decide) ?_
  exact kx H locs tx _ _ _ _ _ _ _ _ _ _ _ _ _ _ _ _ _ _ _ _ _ _ _ _ _ _ _ _ _ _ _ _ _ _ _ _ _ _ _ _ _ _ _ _ _ _ _ _ _ _ _ hT0 hG hM hC0 hC4 hP0 hP4 hTg mg0 mg4 dg0 dg4 og0 og4 xk0 xk3 hI0 hI4 hH0 hH9 hm0 hm3 hO0 hW hoR (relB.step hrB smC.rf smR.rf) hoC heV (by omega) hS hX
theorem dL_law_731 : decode cL_law 731 = .ok (.aload_n 1, 1) := by decide +kernel
theorem dL_law_732 : decode cL_law 732 = .ok (.invokevirtual 92, 3) := by decide +kernel
theorem dL_law_735 : decode cL_law 735 = .ok (.pop, 1) := by decide +kernel
theorem dL_law_736 : decode cL_law 736 = .ok (.aload_n 2, 1) := by decide +kernel
theorem dL_law_737 : decode cL_law 737 = .ok (.invokevirtual 95, 3) := by decide +kernel
theorem dL_law_740 : decode cL_law 740 = .ok (.pop, 1) := by decide +kernel
theorem dL_law_741 : decode cL_law 741 = .ok (.goto 668, 3) := by decide +kernel
set_option maxRecDepth 20000 in
theorem gu_L_hX9_fits : GoodIn wsL_law (wsV RL 92 RX9 yX9_fits uhX9_fits) := goodIn_r _ [699, 700, 701, 2, 702, 23, 47, 703, 704, 705, 46, 715, 716, 717, 2, 706, 707, 708, 709, 710, 711, 712, 713, 110, 714, 718, 21, 20, 719, 720, 721, 19, 727, 728, 729, 36, 344, 345, 346, 34, 43, 744, 745, 746, 42, 28, 749, 442, 443, 27, 750, 446, 447, 751, 450, 451, 752, 753, 754, 722, 66, 723, 724, 725, 726, 67, 68, 69, 70, 71, 730, 106, 740, 741, 742, 107, 731, 685, 686, 732, 733, 734, 739, 271, 272, 743, 352, 353, 354, 243, 244, 217, 355, 245, 247, 248, 246, 249, 687, 688, 226, 227, 735, 682, 736, 737, 464, 738, 108, 109, 683, 273, 274, 169, 275, 170, 347, 87, 356, 357, 80, 88, 359, 79, 89, 90, 91, 92, 93, 86, 348, 349, 350, 358, 81, 351, 250, 251, 252, 253, 747, 100, 748, 444, 76, 448, 77, 452, 454, 455, 456, 453, 458, 459, 460, 489, 490, 491, 457, 461, 471, 223, 479, 480, 481, 483, 484, 485, 466, 467, 468, 472, 473, 469, 475, 476, 477, 462, 463, 465, 470, 224, 482, 486, 487, 488, 474, 478, 492, 493, 494, 495, 496, 755, 759, 632, 633, 756, 757, 758, 101, 634, 637, 628, 629, 99, 98, 636, 635, 630, 1064, 1065, 1066, 1067, 1068, 1069, 1070, 1071, 1072, 1073, 1074, 1075, 1076, 1077, 1078, 1079, 1080, 1081, 1142, 1143, 1144, 1145, 1146, 1122, 1123, 1124, 1125, 1126, 1127, 1130, 1131, 1132, 1133, 1134, 1135, 1136, 1137, 1138, 1139, 1140, 1141, 1128, 1129] rfl (by decide +kernel)
set_option maxRecDepth 20000 in
theorem gu_L_X10_fits : GoodIn wsL_law (wsV RL 95 RX10 yX10_fits uX10_fits) := goodIn_r _ [760, 761, 762, 5, 763, 370, 764, 765, 766, 5, 767, 769, 770, 771, 773, 774, 775, 768, 772, 152, 776, 373, 374, 375, 781, 782, 783, 785, 786, 787, 385, 386, 387, 789, 790, 791, 502, 503, 504, 147, 646, 647, 648, 675, 182, 183, 365, 137, 140, 313, 314, 148, 149, 777, 778, 779, 376, 138, 139, 784, 788, 143, 142, 388, 377, 378, 379, 392, 393, 394, 156, 389, 390, 391, 380, 381, 382, 383, 384, 395, 184, 792, 505, 141, 506, 507, 508, 509, 510, 511, 512, 513, 514, 519, 520, 521, 320, 515, 516, 517, 522, 518, 649, 145, 146, 315, 317, 318, 316, 319, 780, 150, 151, 1082, 1083, 1084, 1085, 1086, 1087, 1088, 1089, 1090, 1091, 1092, 1093, 1094, 1095, 1096, 1097, 1098, 1099, 1100, 1101, 1102, 1103, 1104, 1105, 1106, 1107, 1108, 1109, 1110, 1111, 1112, 1113, 1114, 1115, 1116, 1117] rfl (by decide +kernel)
set_option maxHeartbeats 4000000 in
set_option maxRecDepth 100000 in
theorem lc_17 {p : Program} {l : Launch} {e : Env} {s : State} {m : MethodId} {below : List Frame} {meth : Method} {c : Code} {cells slots : Nat} {Q : State → Prop} {b h0 L : Nat} {xs : Nat → Int32} {yi : Int32} {D : va_G} {cI cL cC : ClassId} {tx tm : Nat → Nat} {H : Heap} {locs : List Loc} {ls : Array Slot} {gC : Int32} {gP : Int32} {gT : Nat → Int32} {gR : Nat → Int32} {mm : Int32} {ms : Int32} {mg : Int32} {mL : Nat → Int32} {mQ : Nat → Int32} {mZ : Nat → Int32} {dm : Int32} {ds : Int32} {dg : Int32} {dL : Nat → Int32} {dQ : Nat → Int32} {dZ : Nat → Int32} {om : Int32} {os : Int32} {og : Int32} {oL : Nat → Int32} {oQ : Nat → Int32} {oZ : Nat → Int32} {gB : Int32} {gO : Int32} {xk : Int32} {gE : Int32} {gV : Nat → Int32} {gU : Nat → Int32} {gN : Nat → Int32} {G : Nat} {gW : Nat → Int32} {gA : Nat → Int32} {gI : Int32} {gS : Int32} {gM : Int32} {K : Nat → Int32} {F : Nat → Int32} {S : Nat → Int32} {N : Nat → Int32} {gH : Int} {gJ : Int} {ge : Int32} {gk : Int32} {gf : Int32} {gs : Int32} {gg : Int32} {gr : Int32} {RN : Nat → Int32} {gb : Int32} {rV : Nat → Int32} {rN : Nat → Int32} (hx : p.tables.exec = Jvm.exec) (hb : c.code = cL_law) (hml : c.maxLocals = 4) (hown : s.vm.findClass RL = some m.cls) (hts : ∀ w ∈ wsL_law, w.before #[Value.ref b] s = true) (hE : EV D cI cL cC s) (hbl : b < h0) (hT0 : cT h0 tm tx) (hG : tG D (hF cI cL cC gC gP gT gR mm ms mg mL mQ mZ dm ds dg dL dQ dZ om os og oL oQ oZ gB gO xk gE gV gU gN G gW gA) tx H) (hM : tG D (mF cI cL cC gC gE gW gA gT gI gS gM K F S N gH gJ ge gk gf gs gg gr RN gb rV rN) tm H) (kt2 : tm (h0 + 92) = 40) (hm00 : ∀ q : Nat, q < h0 → tm q = 0) (uqm : ∀ b c : Nat, tm b = tm c → tm b ≠ 0 → b = c) (hC0 : 0 ≤ gC.toInt) (hC4 : gC.toInt ≤ 400) (hP0 : 0 ≤ gP.toInt) (hP4 : gP.toInt ≤ 400) (hTg : gBd 400 0 255 gT) (mg0 : 0 ≤ mg.toInt) (mg4 : mg.toInt ≤ 4) (dg0 : 0 ≤ dg.toInt) (dg4 : dg.toInt ≤ 4) (og0 : 0 ≤ og.toInt) (og4 : og.toInt ≤ 4) (xk0 : 0 ≤ xk.toInt) (xk3 : xk.toInt ≤ 3) (hI0 : 0 ≤ gI.toInt) (hI4 : gI.toInt ≤ 40) (hH0 : 0 ≤ gH) (hH9 : gH ≤ 96) (hm0 : 0 ≤ gM.toInt) (hm3 : gM.toInt ≤ 3) (hO0 : okM K F S N 0 gI.toInt) (hW : swM gS K F S N gI.toInt) (hoR : othR gb gS gI K F) (hrB : relB gB gb mm gI mL mQ K F) (hoC : othC gB gO mm om mL mQ oL oQ) (heV : eqV gV rV gN rN) (hGb : (G : Int) ≤ 3072 * yi.toInt) (hy0 : 0 ≤ yi.toInt) (hy8 : yi.toInt + 8 ≤ (L : Int)) (hL : L ≤ 4096) (hS : cF h0 s.heap H locs) (hX : va_X b L xs s H) (hl : lv_has ls 4 [(3, .int yi), (2, .ref (h0 + 92)), (1, .ref h0), (0, .ref b)]) (hcl : cells ≤ 600000) (hsl : slots ≤ 7302250) (kx : ∀ (H1 : Heap) (locs1 : List Loc) (tx' : Nat → Nat) (gC' : Int32) (gP' : Int32) (gT' : Nat → Int32) (gR' : Nat → Int32) (mm' : Int32) (ms' : Int32) (mg' : Int32) (mL' : Nat → Int32) (mQ' : Nat → Int32) (mZ' : Nat → Int32) (dm' : Int32) (ds' : Int32) (dg' : Int32) (dL' : Nat → Int32) (dQ' : Nat → Int32) (dZ' : Nat → Int32) (om' : Int32) (os' : Int32) (og' : Int32) (oL' : Nat → Int32) (oQ' : Nat → Int32) (oZ' : Nat → Int32) (gB' : Int32) (gO' : Int32) (xk' : Int32) (gE' : Int32) (gV' : Nat → Int32) (gU' : Nat → Int32) (gN' : Nat → Int32) (G' : Nat) (gW' : Nat → Int32) (gA' : Nat → Int32) (gI' : Int32) (gS' : Int32) (gM' : Int32) (K' : Nat → Int32) (F' : Nat → Int32) (S' : Nat → Int32) (N' : Nat → Int32) (gH' : Int) (gJ' : Int) (ge' : Int32) (gk' : Int32) (gf' : Int32) (gs' : Int32) (gg' : Int32) (gr' : Int32) (RN' : Nat → Int32) (gb' : Int32) (rV' : Nat → Int32) (rN' : Nat → Int32), cT h0 tm tx' → tG D (hF cI cL cC gC' gP' gT' gR' mm' ms' mg' mL' mQ' mZ' dm' ds' dg' dL' dQ' dZ' om' os' og' oL' oQ' oZ' gB' gO' xk' gE' gV' gU' gN' G' gW' gA') tx' H1 → tG D (mF cI cL cC gC' gE' gW' gA' gT' gI' gS' gM' K' F' S' N' gH' gJ' ge' gk' gf' gs' gg' gr' RN' gb' rV' rN') tm H1 → (0 ≤ gC'.toInt) → (gC'.toInt ≤ 400) → (0 ≤ gP'.toInt) → (gP'.toInt ≤ 400) → (gBd 400 0 255 gT') → (0 ≤ mg'.toInt) → (mg'.toInt ≤ 4) → (0 ≤ dg'.toInt) → (dg'.toInt ≤ 4) → (0 ≤ og'.toInt) → (og'.toInt ≤ 4) → (0 ≤ xk'.toInt) → (xk'.toInt ≤ 3) → (0 ≤ gI'.toInt) → (gI'.toInt ≤ 40) → (0 ≤ gH') → (gH' ≤ 96) → (0 ≤ gM'.toInt) → (gM'.toInt ≤ 3) → (okM K' F' S' N' 0 gI'.toInt) → (swM gS' K' F' S' N' gI'.toInt) → (othR gb' gS' gI' K' F') → (relB gB' gb' mm' gI' mL' mQ' K' F') → (othC gB' gO' mm' om' mL' mQ' oL' oQ') → (eqV gV' rV' gN' rN') → (G' : Int) ≤ 3072 * yi.toInt + 24576 → cF h0 s.heap H1 locs1 → va_X b L xs s H1 → W p l e room_1 s m #[Value.ref b] below meth c H1 locs1 cells slots Q (F0 m 1409 ls [])) : W p l e room_1 s m #[Value.ref b] below meth c H locs cells slots Q (F0 m 731 ls []) := by
  refine lv_aload_n hx hb dL_law_731 rfl (lv_at hl 2 rfl) ?_
  obtain ⟨_, at_1⟩ := rcvH hG hT0.1
  refine lx_calli (W.runV (As := []) (rest := []) ⟨hx, hb, hml, hown, hts⟩ (h_X9_fits l D tx cI cL cC gC gP gT gR mm ms mg mL mQ mZ dm ds dg dL dQ dZ om os og oL oQ oZ gB gO xk gE gV gU gN G gW gA h0  hT0.2.2.2.2 hC0 hC4 hP0 hP4 hTg mg0 mg4 dg0 dg4 og0 og4 xk0 xk3 (by omega) hT0.1) (cwV 0 hts gu_L_hX9_fits rfl rfl rfl (by decide +kernel) ⟨Nat.le_of_ble_eq_true rfl, Nat.le_of_ble_eq_true rfl⟩) (tP_V hG hE at_1 rfl) rfl rfl hl.1 rfl (lv_room (Nat.le_of_ble_eq_true rfl)) dL_law_732 ⟨hcl, hsl⟩) hS rfl hT0.2.1 (fun r_2 zz_12 H locs hp_3 hG hS o_4 => ?_)
  obtain ⟨dm_5, ds_6, dg_7, dL_8, dQ_9, dZ_10, G_11⟩ := zz_12
  replace hX := hX.kept (o_4 b (by rw [hT0.2.1 b hbl]; rfl))
  replace hM := tG.keptW hM o_4 (fun q h => by rw [hT0.2.2.1 q h]; rfl)
  replace hG : tG D (hF cI cL cC gC gP gT gR mm ms mg mL mQ mZ dm_5 ds_6 dg_7 dL_8 dQ_9 dZ_10 om os og oL oQ oZ gB gO xk gE gV gU gN G_11 gW gA) tx H := hG
  have hp_3 : (G_11 : Int) ≤ (G : Int) + 24576 ∧ 0 ≤ dg_7.toInt ∧ dg_7.toInt ≤ 4 := hp_3
  obtain ⟨p_13, p_14, p_15⟩ := hp_3
  refine lv_pop hx hb dL_law_735 rfl ?_
  refine lv_aload_n hx hb dL_law_736 rfl (lv_at hl 1 rfl) ?_
  obtain ⟨_, at_16⟩ := rcv40 hM kt2
  refine lx_calli (W.runV (As := []) (rest := []) ⟨hx, hb, hml, hown, hts⟩ (m_X10_fits l D tm cI cL cC gC gE gW gA gT gI gS gM K F S N gH gJ ge gk gf gs gg gr RN gb rV rN (h0 + 92)  uqm hC0 hC4 hI0 hI4 hH0 hH9 hm0 hm3 hO0 hW hoR kt2) (cwV 0 hts gu_L_X10_fits rfl rfl rfl (by decide +kernel) ⟨Nat.le_of_ble_eq_true rfl, Nat.le_of_ble_eq_true rfl⟩) (tP_V hM hE at_16 rfl) rfl rfl hl.1 rfl (lv_room (Nat.le_of_ble_eq_true rfl)) dL_law_737 ⟨hcl, hsl⟩) hS rfl hm00 (fun r_17 zz_26 H locs hp_18 hM hS o_19 => ?_)
  obtain ⟨K_20, F_21, S_22, N_23, gH_24, gJ_25⟩ := zz_26
  replace hX := hX.kept (o_19 b (by rw [hm00 b hbl]; rfl))
  replace hG := tG.keptW hG o_19 (fun q h => by rw [hT0.2.2.2.1 q h]; rfl)
  replace hM : tG D (mF cI cL cC gC gE gW gA gT gI gS gM K_20 F_21 S_22 N_23 gH_24 gJ_25 ge gk gf gs gg gr RN gb rV rN) tm H := hM
  have hp_18 : 0 ≤ gH_24 ∧ gH_24 ≤ 96 ∧ okM K_20 F_21 S_22 N_23 0 gI.toInt ∧ swM gS K_20 F_21 S_22 N_23 gI.toInt ∧ othR gb gS gI K_20 F_21 ∧ smR gb gb gI K F K_20 F_21 := hp_18
  obtain ⟨p_27, p_28, p_29, p_30, p_31, p_32⟩ := hp_18
  refine lv_pop hx hb dL_law_740 rfl ?_
  refine lv_goto (tgt := 1409) hx hb dL_law_741 (by decide) ?_
  exact kx H locs tx _ _ _ _ _ _ _ _ _ _ _ _ _ _ _ _ _ _ _ _ _ _ _ _ _ _ _ _ _ _ _ _ _ _ _ _ _ _ _ _ _ _ _ _ _ _ _ _ _ _ _ hT0 hG hM hC0 hC4 hP0 hP4 hTg mg0 mg4 p_14 p_15 og0 og4 xk0 xk3 hI0 hI4 p_27 p_28 hm0 hm3 p_29 p_30 p_31 (relB.step hrB smC.rf p_32) hoC heV (by omega) hS hX
theorem dL_law_744 : decode cL_law 744 = .ok (.aload_n 1, 1) := by decide +kernel
theorem dL_law_745 : decode cL_law 745 = .ok (.aload_n 0, 1) := by decide +kernel
theorem dL_law_746 : decode cL_law 746 = .ok (.iload_n 3, 1) := by decide +kernel
theorem dL_law_747 : decode cL_law 747 = .ok (.iconst 1, 1) := by decide +kernel
theorem dL_law_748 : decode cL_law 748 = .ok (.iadd, 1) := by decide +kernel
theorem dL_law_749 : decode cL_law 749 = .ok (.iaload, 1) := by decide +kernel
theorem dL_law_750 : decode cL_law 750 = .ok (.aload_n 0, 1) := by decide +kernel
theorem dL_law_751 : decode cL_law 751 = .ok (.iload_n 3, 1) := by decide +kernel
theorem dL_law_752 : decode cL_law 752 = .ok (.iconst 2, 1) := by decide +kernel
theorem dL_law_753 : decode cL_law 753 = .ok (.iadd, 1) := by decide +kernel
theorem dL_law_754 : decode cL_law 754 = .ok (.iaload, 1) := by decide +kernel
theorem dL_law_755 : decode cL_law 755 = .ok (.invokevirtual 96, 3) := by decide +kernel
theorem dL_law_758 : decode cL_law 758 = .ok (.pop, 1) := by decide +kernel
theorem dL_law_759 : decode cL_law 759 = .ok (.aload_n 2, 1) := by decide +kernel
theorem dL_law_760 : decode cL_law 760 = .ok (.aload_n 0, 1) := by decide +kernel
theorem dL_law_761 : decode cL_law 761 = .ok (.iload_n 3, 1) := by decide +kernel
theorem dL_law_762 : decode cL_law 762 = .ok (.iconst 1, 1) := by decide +kernel
theorem dL_law_763 : decode cL_law 763 = .ok (.iadd, 1) := by decide +kernel
theorem dL_law_764 : decode cL_law 764 = .ok (.iaload, 1) := by decide +kernel
theorem dL_law_765 : decode cL_law 765 = .ok (.aload_n 0, 1) := by decide +kernel
theorem dL_law_766 : decode cL_law 766 = .ok (.iload_n 3, 1) := by decide +kernel
theorem dL_law_767 : decode cL_law 767 = .ok (.iconst 2, 1) := by decide +kernel
theorem dL_law_768 : decode cL_law 768 = .ok (.iadd, 1) := by decide +kernel
theorem dL_law_769 : decode cL_law 769 = .ok (.iaload, 1) := by decide +kernel
theorem dL_law_770 : decode cL_law 770 = .ok (.invokevirtual 99, 3) := by decide +kernel
theorem dL_law_773 : decode cL_law 773 = .ok (.pop, 1) := by decide +kernel
theorem dL_law_774 : decode cL_law 774 = .ok (.goto 635, 3) := by decide +kernel
set_option maxRecDepth 20000 in
theorem gu_L_hX9_fit : GoodIn wsL_law (wsV RL 96 RX9 yX9_fit uhX9_fit) := goodIn_r _ [793, 794, 795, 2, 796, 681, 682, 2, 23, 47, 797, 712, 713, 46, 798, 799, 800, 802, 733, 734, 683, 714, 110, 801, 703, 704, 705, 715, 716, 717, 706, 707, 708, 709, 710, 711, 718, 21, 20, 719, 720, 721, 19, 727, 728, 729, 36, 344, 345, 346, 34, 43, 744, 745, 746, 42, 28, 749, 442, 443, 27, 750, 446, 447, 751, 450, 451, 752, 753, 754, 722, 66, 723, 724, 725, 726, 67, 68, 69, 70, 71, 730, 106, 740, 741, 742, 107, 731, 685, 686, 732, 739, 271, 272, 743, 352, 353, 354, 243, 244, 217, 355, 245, 247, 248, 246, 249, 687, 688, 226, 227, 735, 736, 737, 464, 738, 108, 109, 273, 274, 169, 275, 170, 347, 87, 356, 357, 80, 88, 359, 79, 89, 90, 91, 92, 93, 86, 348, 349, 350, 358, 81, 351, 250, 251, 252, 253, 747, 100, 748, 444, 76, 448, 77, 452, 454, 455, 456, 453, 458, 459, 460, 489, 490, 491, 457, 461, 471, 223, 479, 480, 481, 483, 484, 485, 466, 467, 468, 472, 473, 469, 475, 476, 477, 462, 463, 465, 470, 224, 482, 486, 487, 488, 474, 478, 492, 493, 494, 495, 496, 755, 759, 632, 633, 756, 757, 758, 101, 634, 637, 628, 629, 99, 98, 636, 635, 630, 1064, 1065, 1066, 1067, 1068, 1069, 1070, 1071, 1072, 1073, 1074, 1075, 1076, 1077, 1078, 1079, 1080, 1081, 1142, 1143, 1144, 1145, 1146, 1122, 1123, 1124, 1125, 1126, 1127, 1130, 1131, 1132, 1133, 1134, 1135, 1136, 1137, 1138, 1139, 1140, 1141, 1128, 1129] rfl (by decide +kernel)
set_option maxRecDepth 20000 in
theorem gu_L_X10_fit : GoodIn wsL_law (wsV RL 99 RX10 yX10_fit uX10_fit) := goodIn_r _ [803, 804, 805, 5, 806, 182, 183, 5, 370, 152, 764, 765, 766, 768, 777, 778, 779, 184, 767, 769, 770, 771, 773, 774, 775, 772, 776, 373, 374, 375, 781, 782, 783, 785, 786, 787, 385, 386, 387, 789, 790, 791, 502, 503, 504, 147, 646, 647, 648, 675, 365, 137, 140, 313, 314, 148, 149, 376, 138, 139, 784, 788, 143, 142, 388, 377, 378, 379, 392, 393, 394, 156, 389, 390, 391, 380, 381, 382, 383, 384, 395, 792, 505, 141, 506, 507, 508, 509, 510, 511, 512, 513, 514, 519, 520, 521, 320, 515, 516, 517, 522, 518, 649, 145, 146, 315, 317, 318, 316, 319, 780, 150, 151, 1082, 1083, 1084, 1085, 1086, 1087, 1088, 1089, 1090, 1091, 1092, 1093, 1094, 1095, 1096, 1097, 1098, 1099, 1100, 1101, 1102, 1103, 1104, 1105, 1106, 1107, 1108, 1109, 1110, 1111, 1112, 1113, 1114, 1115, 1116, 1117] rfl (by decide +kernel)
set_option maxHeartbeats 4000000 in
set_option maxRecDepth 100000 in
theorem lc_18 {p : Program} {l : Launch} {e : Env} {s : State} {m : MethodId} {below : List Frame} {meth : Method} {c : Code} {cells slots : Nat} {Q : State → Prop} {b h0 L : Nat} {xs : Nat → Int32} {yi : Int32} {D : va_G} {cI cL cC : ClassId} {tx tm : Nat → Nat} {H : Heap} {locs : List Loc} {ls : Array Slot} {gC : Int32} {gP : Int32} {gT : Nat → Int32} {gR : Nat → Int32} {mm : Int32} {ms : Int32} {mg : Int32} {mL : Nat → Int32} {mQ : Nat → Int32} {mZ : Nat → Int32} {dm : Int32} {ds : Int32} {dg : Int32} {dL : Nat → Int32} {dQ : Nat → Int32} {dZ : Nat → Int32} {om : Int32} {os : Int32} {og : Int32} {oL : Nat → Int32} {oQ : Nat → Int32} {oZ : Nat → Int32} {gB : Int32} {gO : Int32} {xk : Int32} {gE : Int32} {gV : Nat → Int32} {gU : Nat → Int32} {gN : Nat → Int32} {G : Nat} {gW : Nat → Int32} {gA : Nat → Int32} {gI : Int32} {gS : Int32} {gM : Int32} {K : Nat → Int32} {F : Nat → Int32} {S : Nat → Int32} {N : Nat → Int32} {gH : Int} {gJ : Int} {ge : Int32} {gk : Int32} {gf : Int32} {gs : Int32} {gg : Int32} {gr : Int32} {RN : Nat → Int32} {gb : Int32} {rV : Nat → Int32} {rN : Nat → Int32} (hx : p.tables.exec = Jvm.exec) (hb : c.code = cL_law) (hml : c.maxLocals = 4) (hown : s.vm.findClass RL = some m.cls) (hts : ∀ w ∈ wsL_law, w.before #[Value.ref b] s = true) (hE : EV D cI cL cC s) (hbl : b < h0) (hT0 : cT h0 tm tx) (hG : tG D (hF cI cL cC gC gP gT gR mm ms mg mL mQ mZ dm ds dg dL dQ dZ om os og oL oQ oZ gB gO xk gE gV gU gN G gW gA) tx H) (hM : tG D (mF cI cL cC gC gE gW gA gT gI gS gM K F S N gH gJ ge gk gf gs gg gr RN gb rV rN) tm H) (kt2 : tm (h0 + 92) = 40) (hm00 : ∀ q : Nat, q < h0 → tm q = 0) (uqm : ∀ b c : Nat, tm b = tm c → tm b ≠ 0 → b = c) (hC0 : 0 ≤ gC.toInt) (hC4 : gC.toInt ≤ 400) (hP0 : 0 ≤ gP.toInt) (hP4 : gP.toInt ≤ 400) (hTg : gBd 400 0 255 gT) (mg0 : 0 ≤ mg.toInt) (mg4 : mg.toInt ≤ 4) (dg0 : 0 ≤ dg.toInt) (dg4 : dg.toInt ≤ 4) (og0 : 0 ≤ og.toInt) (og4 : og.toInt ≤ 4) (xk0 : 0 ≤ xk.toInt) (xk3 : xk.toInt ≤ 3) (hI0 : 0 ≤ gI.toInt) (hI4 : gI.toInt ≤ 40) (hH0 : 0 ≤ gH) (hH9 : gH ≤ 96) (hm0 : 0 ≤ gM.toInt) (hm3 : gM.toInt ≤ 3) (hO0 : okM K F S N 0 gI.toInt) (hW : swM gS K F S N gI.toInt) (hoR : othR gb gS gI K F) (hrB : relB gB gb mm gI mL mQ K F) (hoC : othC gB gO mm om mL mQ oL oQ) (heV : eqV gV rV gN rN) (hGb : (G : Int) ≤ 3072 * yi.toInt) (hy0 : 0 ≤ yi.toInt) (hy8 : yi.toInt + 8 ≤ (L : Int)) (hL : L ≤ 4096) (hS : cF h0 s.heap H locs) (hX : va_X b L xs s H) (hl : lv_has ls 4 [(3, .int yi), (2, .ref (h0 + 92)), (1, .ref h0), (0, .ref b)]) (hcl : cells ≤ 600000) (hsl : slots ≤ 7302250) (kx : ∀ (H1 : Heap) (locs1 : List Loc) (tx' : Nat → Nat) (gC' : Int32) (gP' : Int32) (gT' : Nat → Int32) (gR' : Nat → Int32) (mm' : Int32) (ms' : Int32) (mg' : Int32) (mL' : Nat → Int32) (mQ' : Nat → Int32) (mZ' : Nat → Int32) (dm' : Int32) (ds' : Int32) (dg' : Int32) (dL' : Nat → Int32) (dQ' : Nat → Int32) (dZ' : Nat → Int32) (om' : Int32) (os' : Int32) (og' : Int32) (oL' : Nat → Int32) (oQ' : Nat → Int32) (oZ' : Nat → Int32) (gB' : Int32) (gO' : Int32) (xk' : Int32) (gE' : Int32) (gV' : Nat → Int32) (gU' : Nat → Int32) (gN' : Nat → Int32) (G' : Nat) (gW' : Nat → Int32) (gA' : Nat → Int32) (gI' : Int32) (gS' : Int32) (gM' : Int32) (K' : Nat → Int32) (F' : Nat → Int32) (S' : Nat → Int32) (N' : Nat → Int32) (gH' : Int) (gJ' : Int) (ge' : Int32) (gk' : Int32) (gf' : Int32) (gs' : Int32) (gg' : Int32) (gr' : Int32) (RN' : Nat → Int32) (gb' : Int32) (rV' : Nat → Int32) (rN' : Nat → Int32), cT h0 tm tx' → tG D (hF cI cL cC gC' gP' gT' gR' mm' ms' mg' mL' mQ' mZ' dm' ds' dg' dL' dQ' dZ' om' os' og' oL' oQ' oZ' gB' gO' xk' gE' gV' gU' gN' G' gW' gA') tx' H1 → tG D (mF cI cL cC gC' gE' gW' gA' gT' gI' gS' gM' K' F' S' N' gH' gJ' ge' gk' gf' gs' gg' gr' RN' gb' rV' rN') tm H1 → (0 ≤ gC'.toInt) → (gC'.toInt ≤ 400) → (0 ≤ gP'.toInt) → (gP'.toInt ≤ 400) → (gBd 400 0 255 gT') → (0 ≤ mg'.toInt) → (mg'.toInt ≤ 4) → (0 ≤ dg'.toInt) → (dg'.toInt ≤ 4) → (0 ≤ og'.toInt) → (og'.toInt ≤ 4) → (0 ≤ xk'.toInt) → (xk'.toInt ≤ 3) → (0 ≤ gI'.toInt) → (gI'.toInt ≤ 40) → (0 ≤ gH') → (gH' ≤ 96) → (0 ≤ gM'.toInt) → (gM'.toInt ≤ 3) → (okM K' F' S' N' 0 gI'.toInt) → (swM gS' K' F' S' N' gI'.toInt) → (othR gb' gS' gI' K' F') → (relB gB' gb' mm' gI' mL' mQ' K' F') → (othC gB' gO' mm' om' mL' mQ' oL' oQ') → (eqV gV' rV' gN' rN') → (G' : Int) ≤ 3072 * yi.toInt + 24576 → cF h0 s.heap H1 locs1 → va_X b L xs s H1 → W p l e room_1 s m #[Value.ref b] below meth c H1 locs1 cells slots Q (F0 m 1409 ls [])) : W p l e room_1 s m #[Value.ref b] below meth c H locs cells slots Q (F0 m 744 ls []) := by
  refine lv_aload_n hx hb dL_law_744 rfl (lv_at hl 2 rfl) ?_
  refine lw_argC hx hb hX hl hy0 hy8 hL 1 (by decide) (by decide) dL_law_745 dL_law_746 dL_law_747 dL_law_748 dL_law_749 ?_
  refine lv_pc (pc2 := 750) rfl ?_
  refine lw_argC hx hb hX hl hy0 hy8 hL 2 (by decide) (by decide) dL_law_750 dL_law_751 dL_law_752 dL_law_753 dL_law_754 ?_
  refine lv_pc (pc2 := 755) rfl ?_
  obtain ⟨_, at_1⟩ := rcvH hG hT0.1
  refine lx_calli (W.runV (As := [.int (xs (yi.toInt + 1).toNat), .int (xs (yi.toInt + 2).toNat)]) (rest := []) ⟨hx, hb, hml, hown, hts⟩ (h_X9_fit l D tx cI cL cC gC gP gT gR mm ms mg mL mQ mZ dm ds dg dL dQ dZ om os og oL oQ oZ gB gO xk gE gV gU gN G gW gA h0 (xs (yi.toInt + 1).toNat) (xs (yi.toInt + 2).toNat) hT0.2.2.2.2 hC0 hC4 hP0 hP4 hTg mg0 mg4 dg0 dg4 og0 og4 xk0 xk3 (by omega) hT0.1) (cwV 2 hts gu_L_hX9_fit rfl rfl rfl (by decide +kernel) ⟨Nat.le_of_ble_eq_true rfl, Nat.le_of_ble_eq_true rfl⟩) (tP_V hG hE at_1 rfl) rfl rfl hl.1 rfl (lv_room (Nat.le_of_ble_eq_true rfl)) dL_law_755 ⟨hcl, hsl⟩) hS rfl hT0.2.1 (fun r_2 zz_12 H locs hp_3 hG hS o_4 => ?_)
  obtain ⟨dm_5, ds_6, dg_7, dL_8, dQ_9, dZ_10, G_11⟩ := zz_12
  replace hX := hX.kept (o_4 b (by rw [hT0.2.1 b hbl]; rfl))
  replace hM := tG.keptW hM o_4 (fun q h => by rw [hT0.2.2.1 q h]; rfl)
  replace hG : tG D (hF cI cL cC gC gP gT gR mm ms mg mL mQ mZ dm_5 ds_6 dg_7 dL_8 dQ_9 dZ_10 om os og oL oQ oZ gB gO xk gE gV gU gN G_11 gW gA) tx H := hG
  have hp_3 : (G_11 : Int) ≤ (G : Int) + 24576 ∧ 0 ≤ dg_7.toInt ∧ dg_7.toInt ≤ 4 := hp_3
  obtain ⟨p_13, p_14, p_15⟩ := hp_3
  refine lv_pop hx hb dL_law_758 rfl ?_
  refine lv_aload_n hx hb dL_law_759 rfl (lv_at hl 1 rfl) ?_
  refine lw_argC hx hb hX hl hy0 hy8 hL 1 (by decide) (by decide) dL_law_760 dL_law_761 dL_law_762 dL_law_763 dL_law_764 ?_
  refine lv_pc (pc2 := 765) rfl ?_
  refine lv_pc (pc2 := 765) rfl ?_
  refine lw_argC hx hb hX hl hy0 hy8 hL 2 (by decide) (by decide) dL_law_765 dL_law_766 dL_law_767 dL_law_768 dL_law_769 ?_
  refine lv_pc (pc2 := 770) rfl ?_
  obtain ⟨_, at_16⟩ := rcv40 hM kt2
  refine lx_calli (W.runV (As := [.int (xs (yi.toInt + 1).toNat), .int (xs (yi.toInt + 2).toNat)]) (rest := []) ⟨hx, hb, hml, hown, hts⟩ (m_X10_fit l D tm cI cL cC gC gE gW gA gT gI gS gM K F S N gH gJ ge gk gf gs gg gr RN gb rV rN (h0 + 92) (xs (yi.toInt + 1).toNat) (xs (yi.toInt + 2).toNat) uqm hC0 hC4 hI0 hI4 hH0 hH9 hm0 hm3 hO0 hW hoR kt2) (cwV 2 hts gu_L_X10_fit rfl rfl rfl (by decide +kernel) ⟨Nat.le_of_ble_eq_true rfl, Nat.le_of_ble_eq_true rfl⟩) (tP_V hM hE at_16 rfl) rfl rfl hl.1 rfl (lv_room (Nat.le_of_ble_eq_true rfl)) dL_law_770 ⟨hcl, hsl⟩) hS rfl hm00 (fun r_17 zz_26 H locs hp_18 hM hS o_19 => ?_)
  obtain ⟨K_20, F_21, S_22, N_23, gH_24, gJ_25⟩ := zz_26
  replace hX := hX.kept (o_19 b (by rw [hm00 b hbl]; rfl))
  replace hG := tG.keptW hG o_19 (fun q h => by rw [hT0.2.2.2.1 q h]; rfl)
  replace hM : tG D (mF cI cL cC gC gE gW gA gT gI gS gM K_20 F_21 S_22 N_23 gH_24 gJ_25 ge gk gf gs gg gr RN gb rV rN) tm H := hM
  have hp_18 : 0 ≤ gH_24 ∧ gH_24 ≤ 96 ∧ okM K_20 F_21 S_22 N_23 0 gI.toInt ∧ swM gS K_20 F_21 S_22 N_23 gI.toInt ∧ othR gb gS gI K_20 F_21 ∧ smR gb gb gI K F K_20 F_21 := hp_18
  obtain ⟨p_27, p_28, p_29, p_30, p_31, p_32⟩ := hp_18
  refine lv_pop hx hb dL_law_773 rfl ?_
  refine lv_goto (tgt := 1409) hx hb dL_law_774 (by decide) ?_
  exact kx H locs tx _ _ _ _ _ _ _ _ _ _ _ _ _ _ _ _ _ _ _ _ _ _ _ _ _ _ _ _ _ _ _ _ _ _ _ _ _ _ _ _ _ _ _ _ _ _ _ _ _ _ _ hT0 hG hM hC0 hC4 hP0 hP4 hTg mg0 mg4 p_14 p_15 og0 og4 xk0 xk3 hI0 hI4 p_27 p_28 hm0 hm3 p_29 p_30 p_31 (relB.step hrB smC.rf p_32) hoC heV (by omega) hS hX
theorem dL_law_777 : decode cL_law 777 = .ok (.aload_n 1, 1) := by decide +kernel
theorem dL_law_778 : decode cL_law 778 = .ok (.aload_n 0, 1) := by decide +kernel
theorem dL_law_779 : decode cL_law 779 = .ok (.iload_n 3, 1) := by decide +kernel
theorem dL_law_780 : decode cL_law 780 = .ok (.iconst 1, 1) := by decide +kernel
theorem dL_law_781 : decode cL_law 781 = .ok (.iadd, 1) := by decide +kernel
theorem dL_law_782 : decode cL_law 782 = .ok (.iaload, 1) := by decide +kernel
theorem dL_law_783 : decode cL_law 783 = .ok (.invokevirtual 100, 3) := by decide +kernel
theorem dL_law_786 : decode cL_law 786 = .ok (.pop, 1) := by decide +kernel
theorem dL_law_787 : decode cL_law 787 = .ok (.aload_n 2, 1) := by decide +kernel
theorem dL_law_788 : decode cL_law 788 = .ok (.aload_n 0, 1) := by decide +kernel
theorem dL_law_789 : decode cL_law 789 = .ok (.iload_n 3, 1) := by decide +kernel
theorem dL_law_790 : decode cL_law 790 = .ok (.iconst 1, 1) := by decide +kernel
theorem dL_law_791 : decode cL_law 791 = .ok (.iadd, 1) := by decide +kernel
theorem dL_law_792 : decode cL_law 792 = .ok (.iaload, 1) := by decide +kernel
theorem dL_law_793 : decode cL_law 793 = .ok (.invokevirtual 103, 3) := by decide +kernel
theorem dL_law_796 : decode cL_law 796 = .ok (.pop, 1) := by decide +kernel
theorem dL_law_797 : decode cL_law 797 = .ok (.goto 612, 3) := by decide +kernel
set_option maxRecDepth 20000 in
theorem gu_L_hX9_take : GoodIn wsL_law (wsV RL 100 RX9 yX9_take uhX9_take) := goodIn_r _ [807, 808, 809, 2, 810, 23, 798, 799, 800, 2, 340, 341, 342, 801, 47, 703, 704, 705, 46, 715, 716, 717, 706, 707, 708, 709, 710, 711, 712, 713, 110, 714, 718, 21, 20, 719, 720, 721, 19, 727, 728, 729, 36, 344, 345, 346, 34, 43, 744, 745, 746, 42, 28, 749, 442, 443, 27, 750, 446, 447, 751, 450, 451, 752, 753, 754, 722, 66, 723, 724, 725, 726, 67, 68, 69, 70, 71, 730, 106, 740, 741, 742, 107, 731, 685, 686, 732, 733, 734, 739, 271, 272, 743, 352, 353, 354, 243, 244, 217, 355, 245, 247, 248, 246, 249, 687, 688, 226, 227, 735, 682, 736, 737, 464, 738, 108, 109, 683, 273, 274, 169, 275, 170, 347, 87, 356, 357, 80, 88, 359, 79, 89, 90, 91, 92, 93, 86, 348, 349, 350, 358, 81, 351, 250, 251, 252, 253, 747, 100, 748, 444, 76, 448, 77, 452, 454, 455, 456, 453, 458, 459, 460, 489, 490, 491, 457, 461, 471, 223, 479, 480, 481, 483, 484, 485, 466, 467, 468, 472, 473, 469, 475, 476, 477, 462, 463, 465, 470, 224, 482, 486, 487, 488, 474, 478, 492, 493, 494, 495, 496, 755, 759, 632, 633, 756, 757, 758, 101, 634, 637, 628, 629, 99, 98, 636, 635, 630, 343, 24, 39, 35, 31, 360, 1064, 1065, 1066, 1067, 1068, 1069, 1070, 1071, 1072, 1073, 1074, 1075, 1076, 1077, 1078, 1079, 1080, 1081, 1142, 1143, 1144, 1145, 1146, 1122, 1123, 1124, 1125, 1126, 1127, 1130, 1131, 1132, 1133, 1134, 1135, 1136, 1137, 1138, 1139, 1140, 1141, 1128, 1129] rfl (by decide +kernel)
set_option maxRecDepth 20000 in
theorem gu_L_X10_take : GoodIn wsL_law (wsV RL 103 RX10 yX10_take uX10_take) := goodIn_r _ [811, 812, 813, 5, 814, 370, 764, 765, 766, 5, 366, 367, 368, 767, 769, 770, 771, 773, 774, 775, 768, 772, 152, 776, 373, 374, 375, 781, 782, 783, 785, 786, 787, 385, 386, 387, 789, 790, 791, 502, 503, 504, 147, 646, 647, 648, 675, 182, 183, 365, 137, 140, 313, 314, 148, 149, 777, 778, 779, 376, 138, 139, 784, 788, 143, 142, 388, 377, 378, 379, 392, 393, 394, 156, 389, 390, 391, 380, 381, 382, 383, 384, 395, 184, 792, 505, 141, 506, 507, 508, 509, 510, 511, 512, 513, 514, 519, 520, 521, 320, 515, 516, 517, 522, 518, 649, 145, 146, 315, 317, 318, 316, 319, 780, 150, 151, 369, 371, 372, 1082, 1083, 1084, 1085, 1086, 1087, 1088, 1089, 1090, 1091, 1092, 1093, 1094, 1095, 1096, 1097, 1098, 1099, 1100, 1101, 1102, 1103, 1104, 1105, 1106, 1107, 1108, 1109, 1110, 1111, 1112, 1113, 1114, 1115, 1116, 1117] rfl (by decide +kernel)
set_option maxHeartbeats 4000000 in
set_option maxRecDepth 100000 in
theorem lc_19 {p : Program} {l : Launch} {e : Env} {s : State} {m : MethodId} {below : List Frame} {meth : Method} {c : Code} {cells slots : Nat} {Q : State → Prop} {b h0 L : Nat} {xs : Nat → Int32} {yi : Int32} {D : va_G} {cI cL cC : ClassId} {tx tm : Nat → Nat} {H : Heap} {locs : List Loc} {ls : Array Slot} {gC : Int32} {gP : Int32} {gT : Nat → Int32} {gR : Nat → Int32} {mm : Int32} {ms : Int32} {mg : Int32} {mL : Nat → Int32} {mQ : Nat → Int32} {mZ : Nat → Int32} {dm : Int32} {ds : Int32} {dg : Int32} {dL : Nat → Int32} {dQ : Nat → Int32} {dZ : Nat → Int32} {om : Int32} {os : Int32} {og : Int32} {oL : Nat → Int32} {oQ : Nat → Int32} {oZ : Nat → Int32} {gB : Int32} {gO : Int32} {xk : Int32} {gE : Int32} {gV : Nat → Int32} {gU : Nat → Int32} {gN : Nat → Int32} {G : Nat} {gW : Nat → Int32} {gA : Nat → Int32} {gI : Int32} {gS : Int32} {gM : Int32} {K : Nat → Int32} {F : Nat → Int32} {S : Nat → Int32} {N : Nat → Int32} {gH : Int} {gJ : Int} {ge : Int32} {gk : Int32} {gf : Int32} {gs : Int32} {gg : Int32} {gr : Int32} {RN : Nat → Int32} {gb : Int32} {rV : Nat → Int32} {rN : Nat → Int32} (hx : p.tables.exec = Jvm.exec) (hb : c.code = cL_law) (hml : c.maxLocals = 4) (hown : s.vm.findClass RL = some m.cls) (hts : ∀ w ∈ wsL_law, w.before #[Value.ref b] s = true) (hE : EV D cI cL cC s) (hbl : b < h0) (hT0 : cT h0 tm tx) (hG : tG D (hF cI cL cC gC gP gT gR mm ms mg mL mQ mZ dm ds dg dL dQ dZ om os og oL oQ oZ gB gO xk gE gV gU gN G gW gA) tx H) (hM : tG D (mF cI cL cC gC gE gW gA gT gI gS gM K F S N gH gJ ge gk gf gs gg gr RN gb rV rN) tm H) (kt2 : tm (h0 + 92) = 40) (hm00 : ∀ q : Nat, q < h0 → tm q = 0) (uqm : ∀ b c : Nat, tm b = tm c → tm b ≠ 0 → b = c) (hC0 : 0 ≤ gC.toInt) (hC4 : gC.toInt ≤ 400) (hP0 : 0 ≤ gP.toInt) (hP4 : gP.toInt ≤ 400) (hTg : gBd 400 0 255 gT) (mg0 : 0 ≤ mg.toInt) (mg4 : mg.toInt ≤ 4) (dg0 : 0 ≤ dg.toInt) (dg4 : dg.toInt ≤ 4) (og0 : 0 ≤ og.toInt) (og4 : og.toInt ≤ 4) (xk0 : 0 ≤ xk.toInt) (xk3 : xk.toInt ≤ 3) (hI0 : 0 ≤ gI.toInt) (hI4 : gI.toInt ≤ 40) (hH0 : 0 ≤ gH) (hH9 : gH ≤ 96) (hm0 : 0 ≤ gM.toInt) (hm3 : gM.toInt ≤ 3) (hO0 : okM K F S N 0 gI.toInt) (hW : swM gS K F S N gI.toInt) (hoR : othR gb gS gI K F) (hrB : relB gB gb mm gI mL mQ K F) (hoC : othC gB gO mm om mL mQ oL oQ) (heV : eqV gV rV gN rN) (hGb : (G : Int) ≤ 3072 * yi.toInt) (hy0 : 0 ≤ yi.toInt) (hy8 : yi.toInt + 8 ≤ (L : Int)) (hL : L ≤ 4096) (hS : cF h0 s.heap H locs) (hX : va_X b L xs s H) (hl : lv_has ls 4 [(3, .int yi), (2, .ref (h0 + 92)), (1, .ref h0), (0, .ref b)]) (hcl : cells ≤ 600000) (hsl : slots ≤ 7302250) (kx : ∀ (H1 : Heap) (locs1 : List Loc) (tx' : Nat → Nat) (gC' : Int32) (gP' : Int32) (gT' : Nat → Int32) (gR' : Nat → Int32) (mm' : Int32) (ms' : Int32) (mg' : Int32) (mL' : Nat → Int32) (mQ' : Nat → Int32) (mZ' : Nat → Int32) (dm' : Int32) (ds' : Int32) (dg' : Int32) (dL' : Nat → Int32) (dQ' : Nat → Int32) (dZ' : Nat → Int32) (om' : Int32) (os' : Int32) (og' : Int32) (oL' : Nat → Int32) (oQ' : Nat → Int32) (oZ' : Nat → Int32) (gB' : Int32) (gO' : Int32) (xk' : Int32) (gE' : Int32) (gV' : Nat → Int32) (gU' : Nat → Int32) (gN' : Nat → Int32) (G' : Nat) (gW' : Nat → Int32) (gA' : Nat → Int32) (gI' : Int32) (gS' : Int32) (gM' : Int32) (K' : Nat → Int32) (F' : Nat → Int32) (S' : Nat → Int32) (N' : Nat → Int32) (gH' : Int) (gJ' : Int) (ge' : Int32) (gk' : Int32) (gf' : Int32) (gs' : Int32) (gg' : Int32) (gr' : Int32) (RN' : Nat → Int32) (gb' : Int32) (rV' : Nat → Int32) (rN' : Nat → Int32), cT h0 tm tx' → tG D (hF cI cL cC gC' gP' gT' gR' mm' ms' mg' mL' mQ' mZ' dm' ds' dg' dL' dQ' dZ' om' os' og' oL' oQ' oZ' gB' gO' xk' gE' gV' gU' gN' G' gW' gA') tx' H1 → tG D (mF cI cL cC gC' gE' gW' gA' gT' gI' gS' gM' K' F' S' N' gH' gJ' ge' gk' gf' gs' gg' gr' RN' gb' rV' rN') tm H1 → (0 ≤ gC'.toInt) → (gC'.toInt ≤ 400) → (0 ≤ gP'.toInt) → (gP'.toInt ≤ 400) → (gBd 400 0 255 gT') → (0 ≤ mg'.toInt) → (mg'.toInt ≤ 4) → (0 ≤ dg'.toInt) → (dg'.toInt ≤ 4) → (0 ≤ og'.toInt) → (og'.toInt ≤ 4) → (0 ≤ xk'.toInt) → (xk'.toInt ≤ 3) → (0 ≤ gI'.toInt) → (gI'.toInt ≤ 40) → (0 ≤ gH') → (gH' ≤ 96) → (0 ≤ gM'.toInt) → (gM'.toInt ≤ 3) → (okM K' F' S' N' 0 gI'.toInt) → (swM gS' K' F' S' N' gI'.toInt) → (othR gb' gS' gI' K' F') → (relB gB' gb' mm' gI' mL' mQ' K' F') → (othC gB' gO' mm' om' mL' mQ' oL' oQ') → (eqV gV' rV' gN' rN') → (G' : Int) ≤ 3072 * yi.toInt + 24576 → cF h0 s.heap H1 locs1 → va_X b L xs s H1 → W p l e room_1 s m #[Value.ref b] below meth c H1 locs1 cells slots Q (F0 m 1409 ls [])) : W p l e room_1 s m #[Value.ref b] below meth c H locs cells slots Q (F0 m 777 ls []) := by
  refine lv_aload_n hx hb dL_law_777 rfl (lv_at hl 2 rfl) ?_
  refine lw_argC hx hb hX hl hy0 hy8 hL 1 (by decide) (by decide) dL_law_778 dL_law_779 dL_law_780 dL_law_781 dL_law_782 ?_
  refine lv_pc (pc2 := 783) rfl ?_
  obtain ⟨_, at_1⟩ := rcvH hG hT0.1
  refine lz_calli (W.runV (As := [.int (xs (yi.toInt + 1).toNat)]) (rest := []) ⟨hx, hb, hml, hown, hts⟩ (h_X9_take l D tx cI cL cC gC gP gT gR mm ms mg mL mQ mZ dm ds dg dL dQ dZ om os og oL oQ oZ gB gO xk gE gV gU gN G gW gA h0 (xs (yi.toInt + 1).toNat) hT0.2.2.2.2 hC0 hC4 hP0 hP4 hTg mg0 mg4 dg0 dg4 og0 og4 xk0 xk3 (by omega) hoC hrB.le40 hT0.1) (cwV 1 hts gu_L_hX9_take rfl rfl rfl (by decide +kernel) ⟨Nat.le_of_ble_eq_true rfl, Nat.le_of_ble_eq_true rfl⟩) (tP_V hG hE at_1 rfl) rfl rfl hl.1 rfl (lv_room (Nat.le_of_ble_eq_true rfl)) dL_law_783 ⟨hcl, hsl⟩) hS rfl hT0.2.1 (fun r_2 zz_21 H locs hp_3 hG hS o_4 => ?_)
  obtain ⟨bz_22, mm_5, ms_6, mg_7, mL_8, mQ_9, mZ_10, dm_11, ds_12, dg_13, dL_14, dQ_15, dZ_16, gB_17, gO_18, xk_19, G_20⟩ := zz_21
  replace hX := hX.kept (o_4 b (by rw [hT0.2.1 b hbl]; rfl))
  replace hM := tG.keptW hM o_4 (fun q h => by rw [hT0.2.2.1 q h]; rfl)
  have hT_24 := hT0.rolesC bz_22
  replace hG : tG D (hF cI cL cC gC gP gT gR mm_5 ms_6 mg_7 mL_8 mQ_9 mZ_10 dm_11 ds_12 dg_13 dL_14 dQ_15 dZ_16 om os og oL oQ oZ gB_17 gO_18 xk_19 gE gV gU gN G_20 gW gA) (cond bz_22 (fun q => sg (tx q)) tx) H := hG
  generalize cond bz_22 (fun q => sg (tx q)) tx = ty_23 at hG hT_24
  have hp_3 : 0 ≤ mg_7.toInt ∧ mg_7.toInt ≤ 4 ∧ 0 ≤ dg_13.toInt ∧ dg_13.toInt ≤ 4 ∧ 0 ≤ xk_19.toInt ∧ xk_19.toInt ≤ 3 ∧ (G_20 : Int) ≤ (G : Int) + 24576 ∧ smC gB gB_17 mm mm_5 mL mQ mL_8 mQ_9 ∧ othC gB_17 gO_18 mm_5 om mL_8 mQ_9 oL oQ := hp_3
  obtain ⟨p_25, p_26, p_27, p_28, p_29, p_30, p_31, p_32, p_33⟩ := hp_3
  refine lv_pop hx hb dL_law_786 rfl ?_
  refine lv_aload_n hx hb dL_law_787 rfl (lv_at hl 1 rfl) ?_
  refine lw_argC hx hb hX hl hy0 hy8 hL 1 (by decide) (by decide) dL_law_788 dL_law_789 dL_law_790 dL_law_791 dL_law_792 ?_
  refine lv_pc (pc2 := 793) rfl ?_
  obtain ⟨_, at_34⟩ := rcv40 hM kt2
  refine lx_calli (W.runV (As := [.int (xs (yi.toInt + 1).toNat)]) (rest := []) ⟨hx, hb, hml, hown, hts⟩ (m_X10_take l D tm cI cL cC gC gE gW gA gT gI gS gM K F S N gH gJ ge gk gf gs gg gr RN gb rV rN (h0 + 92) (xs (yi.toInt + 1).toNat) uqm hC0 hC4 hI0 hI4 hH0 hH9 hm0 hm3 hO0 hW hoR kt2) (cwV 1 hts gu_L_X10_take rfl rfl rfl (by decide +kernel) ⟨Nat.le_of_ble_eq_true rfl, Nat.le_of_ble_eq_true rfl⟩) (tP_V hM hE at_34 rfl) rfl rfl hl.1 rfl (lv_room (Nat.le_of_ble_eq_true rfl)) dL_law_793 ⟨hcl, hsl⟩) hS rfl hm00 (fun r_35 zz_47 H locs hp_36 hM hS o_37 => ?_)
  obtain ⟨K_38, F_39, S_40, N_41, gH_42, gJ_43, gS_44, gM_45, gb_46⟩ := zz_47
  replace hX := hX.kept (o_37 b (by rw [hm00 b hbl]; rfl))
  replace hG := tG.keptW hG o_37 (fun q h => by rw [hT_24.2.2.2.1 q h]; rfl)
  replace hM : tG D (mF cI cL cC gC gE gW gA gT gI gS_44 gM_45 K_38 F_39 S_40 N_41 gH_42 gJ_43 ge gk gf gs gg gr RN gb_46 rV rN) tm H := hM
  have hp_36 : 0 ≤ gH_42 ∧ gH_42 ≤ 96 ∧ 0 ≤ gM_45.toInt ∧ gM_45.toInt ≤ 3 ∧ okM K_38 F_39 S_40 N_41 0 gI.toInt ∧ swM gS_44 K_38 F_39 S_40 N_41 gI.toInt ∧ othR gb_46 gS_44 gI K_38 F_39 ∧ smR gb gb_46 gI K F K_38 F_39 := hp_36
  obtain ⟨p_48, p_49, p_50, p_51, p_52, p_53, p_54, p_55⟩ := hp_36
  refine lv_pc (pc2 := 796) rfl ?_
  refine lv_pop hx hb dL_law_796 rfl ?_
  refine lv_goto (tgt := 1409) hx hb dL_law_797 (by decide) ?_
  exact kx H locs ty_23 _ _ _ _ _ _ _ _ _ _ _ _ _ _ _ _ _ _ _ _ _ _ _ _ _ _ _ _ _ _ _ _ _ _ _ _ _ _ _ _ _ _ _ _ _ _ _ _ _ _ _ hT_24 hG hM hC0 hC4 hP0 hP4 hTg p_25 p_26 p_27 p_28 og0 og4 p_29 p_30 hI0 hI4 p_48 p_49 p_50 p_51 p_52 p_53 p_54 (relB.step hrB p_32 p_55) p_33 heV (by omega) hS hX
