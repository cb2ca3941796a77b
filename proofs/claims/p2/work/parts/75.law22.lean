theorem dL_law_876 : decode cL_law 876 = .ok (.aload_n 1, 1) := by decide +kernel
theorem dL_law_877 : decode cL_law 877 = .ok (.aload_n 0, 1) := by decide +kernel
theorem dL_law_878 : decode cL_law 878 = .ok (.iload_n 3, 1) := by decide +kernel
theorem dL_law_879 : decode cL_law 879 = .ok (.iconst 1, 1) := by decide +kernel
theorem dL_law_880 : decode cL_law 880 = .ok (.iadd, 1) := by decide +kernel
theorem dL_law_881 : decode cL_law 881 = .ok (.iaload, 1) := by decide +kernel
theorem dL_law_882 : decode cL_law 882 = .ok (.aload_n 0, 1) := by decide +kernel
theorem dL_law_883 : decode cL_law 883 = .ok (.iload_n 3, 1) := by decide +kernel
theorem dL_law_884 : decode cL_law 884 = .ok (.iconst 2, 1) := by decide +kernel
theorem dL_law_885 : decode cL_law 885 = .ok (.iadd, 1) := by decide +kernel
theorem dL_law_886 : decode cL_law 886 = .ok (.iaload, 1) := by decide +kernel
theorem dL_law_887 : decode cL_law 887 = .ok (.aload_n 0, 1) := by decide +kernel
theorem dL_law_888 : decode cL_law 888 = .ok (.iload_n 3, 1) := by decide +kernel
theorem dL_law_889 : decode cL_law 889 = .ok (.iconst 3, 1) := by decide +kernel
theorem dL_law_890 : decode cL_law 890 = .ok (.iadd, 1) := by decide +kernel
theorem dL_law_891 : decode cL_law 891 = .ok (.iaload, 1) := by decide +kernel
theorem dL_law_892 : decode cL_law 892 = .ok (.i2l, 1) := by decide +kernel
theorem dL_law_893 : decode cL_law 893 = .ok (.bipush 32, 2) := by decide +kernel
theorem dL_law_895 : decode cL_law 895 = .ok (.lshl, 1) := by decide +kernel
theorem dL_law_896 : decode cL_law 896 = .ok (.aload_n 0, 1) := by decide +kernel
theorem dL_law_897 : decode cL_law 897 = .ok (.iload_n 3, 1) := by decide +kernel
theorem dL_law_898 : decode cL_law 898 = .ok (.iconst 4, 1) := by decide +kernel
theorem dL_law_899 : decode cL_law 899 = .ok (.iadd, 1) := by decide +kernel
theorem dL_law_900 : decode cL_law 900 = .ok (.iaload, 1) := by decide +kernel
theorem dL_law_901 : decode cL_law 901 = .ok (.i2l, 1) := by decide +kernel
theorem dL_law_902 : decode cL_law 902 = .ok (.ldc2_w 13, 3) := by decide +kernel
theorem dL_law_905 : decode cL_law 905 = .ok (.land, 1) := by decide +kernel
theorem dL_law_906 : decode cL_law 906 = .ok (.lor, 1) := by decide +kernel
theorem dL_law_907 : decode cL_law 907 = .ok (.invokevirtual 112, 3) := by decide +kernel
theorem dL_law_910 : decode cL_law 910 = .ok (.pop, 1) := by decide +kernel
theorem dL_law_911 : decode cL_law 911 = .ok (.aload_n 2, 1) := by decide +kernel
theorem dL_law_912 : decode cL_law 912 = .ok (.aload_n 0, 1) := by decide +kernel
theorem dL_law_913 : decode cL_law 913 = .ok (.iload_n 3, 1) := by decide +kernel
theorem dL_law_914 : decode cL_law 914 = .ok (.iconst 1, 1) := by decide +kernel
theorem dL_law_915 : decode cL_law 915 = .ok (.iadd, 1) := by decide +kernel
theorem dL_law_916 : decode cL_law 916 = .ok (.iaload, 1) := by decide +kernel
theorem dL_law_917 : decode cL_law 917 = .ok (.aload_n 0, 1) := by decide +kernel
theorem dL_law_918 : decode cL_law 918 = .ok (.iload_n 3, 1) := by decide +kernel
theorem dL_law_919 : decode cL_law 919 = .ok (.iconst 2, 1) := by decide +kernel
theorem dL_law_920 : decode cL_law 920 = .ok (.iadd, 1) := by decide +kernel
theorem dL_law_921 : decode cL_law 921 = .ok (.iaload, 1) := by decide +kernel
theorem dL_law_922 : decode cL_law 922 = .ok (.aload_n 0, 1) := by decide +kernel
theorem dL_law_923 : decode cL_law 923 = .ok (.iload_n 3, 1) := by decide +kernel
theorem dL_law_924 : decode cL_law 924 = .ok (.iconst 3, 1) := by decide +kernel
theorem dL_law_925 : decode cL_law 925 = .ok (.iadd, 1) := by decide +kernel
theorem dL_law_926 : decode cL_law 926 = .ok (.iaload, 1) := by decide +kernel
theorem dL_law_927 : decode cL_law 927 = .ok (.i2l, 1) := by decide +kernel
theorem dL_law_928 : decode cL_law 928 = .ok (.bipush 32, 2) := by decide +kernel
theorem dL_law_930 : decode cL_law 930 = .ok (.lshl, 1) := by decide +kernel
theorem dL_law_931 : decode cL_law 931 = .ok (.aload_n 0, 1) := by decide +kernel
theorem dL_law_932 : decode cL_law 932 = .ok (.iload_n 3, 1) := by decide +kernel
theorem dL_law_933 : decode cL_law 933 = .ok (.iconst 4, 1) := by decide +kernel
theorem dL_law_934 : decode cL_law 934 = .ok (.iadd, 1) := by decide +kernel
theorem dL_law_935 : decode cL_law 935 = .ok (.iaload, 1) := by decide +kernel
theorem dL_law_936 : decode cL_law 936 = .ok (.i2l, 1) := by decide +kernel
theorem dL_law_937 : decode cL_law 937 = .ok (.ldc2_w 13, 3) := by decide +kernel
theorem dL_law_940 : decode cL_law 940 = .ok (.land, 1) := by decide +kernel
theorem dL_law_941 : decode cL_law 941 = .ok (.lor, 1) := by decide +kernel
theorem dL_law_942 : decode cL_law 942 = .ok (.invokevirtual 116, 3) := by decide +kernel
theorem dL_law_945 : decode cL_law 945 = .ok (.pop, 1) := by decide +kernel
theorem dL_law_946 : decode cL_law 946 = .ok (.goto 463, 3) := by decide +kernel
set_option maxRecDepth 20000 in
theorem gu_L_X9_chance : GoodIn wsL_law (wsV RL 112 RX9 yX9_chance uX9_chance) := goodIn_r _ [844, 845, 846, 2, 847, 608, 609, 2, 168, 169, 623, 624, 625, 848, 849, 850, 852, 853, 854, 610, 170, 626, 23, 43, 627, 628, 629, 42, 630, 98, 851, 35, 428, 855, 51, 819, 856, 857, 858, 859, 36, 861, 862, 863, 34, 866, 836, 837, 50, 20, 28, 750, 446, 447, 27, 751, 450, 451, 631, 632, 633, 860, 463, 464, 465, 749, 442, 443, 864, 86, 865, 724, 725, 726, 87, 88, 89, 90, 91, 92, 93, 838, 821, 116, 822, 448, 77, 452, 454, 455, 456, 453, 458, 459, 460, 489, 490, 491, 457, 461, 471, 353, 354, 19, 223, 479, 480, 481, 483, 484, 485, 466, 467, 468, 472, 473, 469, 475, 476, 477, 462, 470, 355, 66, 224, 482, 71, 68, 486, 487, 488, 474, 478, 250, 251, 252, 67, 352, 253, 492, 493, 494, 495, 496, 634, 637, 99, 636, 274, 635, 275, 444, 76, 1064, 1065, 1066, 1067, 1068, 1069, 1070, 1071, 1072, 1073, 1074, 1075, 1076, 1077, 1078, 1079, 1080, 1081, 1138, 1139, 1140, 1141, 1130, 1131, 1132, 1133, 1134, 1135, 1136, 1137, 1147, 1148, 1149, 1128, 1129, 1122, 1123, 1124, 1125, 1126, 1127] rfl (by decide +kernel)
set_option maxRecDepth 20000 in
theorem gu_L_X10_chance : GoodIn wsL_law (wsV RL 116 RX10 yX10_chance uX10_chance) := goodIn_r _ [867, 868, 869, 5, 870, 575, 182, 183, 5, 871, 872, 873, 874, 876, 877, 878, 184, 875, 642, 643, 644, 142, 501, 645, 370, 145, 879, 153, 880, 881, 882, 883, 785, 786, 787, 545, 789, 790, 791, 154, 141, 506, 507, 508, 646, 647, 648, 788, 143, 792, 509, 365, 137, 510, 511, 512, 138, 139, 140, 513, 514, 519, 520, 521, 320, 515, 516, 517, 522, 518, 381, 382, 383, 384, 649, 146, 1082, 1083, 1084, 1085, 1086, 1087, 1088, 1089, 1090, 1091, 1092, 1093, 1094, 1095, 1096, 1097, 1098, 1099, 1100, 1101, 1102, 1103, 1104, 1105, 1106, 1107, 1108, 1109, 1110, 1111, 1112, 1113, 1114, 1115, 1116, 1117] rfl (by decide +kernel)
set_option maxHeartbeats 4000000 in
set_option maxRecDepth 100000 in
theorem lc_22 {p : Program} {l : Launch} {e : Env} {s : State} {m : MethodId} {below : List Frame} {meth : Method} {c : Code} {cells slots : Nat} {Q : State → Prop} {b h0 L : Nat} {xs : Nat → Int32} {yi : Int32} {D : va_G} {cI cL cC : ClassId} {tx tm : Nat → Nat} {H : Heap} {locs : List Loc} {ls : Array Slot} {gC : Int32} {gE : Int32} {G : Nat} {gW : Nat → Int32} {gA : Nat → Int32} {gT : Nat → Int32} {gI : Int32} {gS : Int32} {gM : Int32} {K : Nat → Int32} {F : Nat → Int32} {S : Nat → Int32} {N : Nat → Int32} {gH : Int} {gJ : Int} {ge : Int32} {gk : Int32} {gf : Int32} {gs : Int32} {gg : Int32} {gr : Int32} {RN : Nat → Int32} (hx : p.tables.exec = Jvm.exec) (hb : c.code = cL_law) (hml : c.maxLocals = 4) (hown : s.vm.findClass RL = some m.cls) (hts : ∀ w ∈ wsL_law, w.before #[Value.ref b] s = true) (hE : EV D cI cL cC s) (hbl : b < h0) (hG : tG D (gF cI cL cC gC gE G gW gA) tx H) (hM : tG D (mF cI cL cC gC gE gW gA gT gI gS gM K F S N gH gJ ge gk gf gs gg gr RN) tm H) (kt : tx h0 = 1) (kt2 : tm (h0 + 92) = 40) (hx0 : ∀ q : Nat, q < h0 → tx q = 0) (hm00 : ∀ q : Nat, q < h0 → tm q = 0) (dj : ∀ q : Nat, tm q ≠ 0 → tx q = 0) (dj2 : ∀ q : Nat, tx q ≠ 0 → tm q = 0) (uq_gC : ∀ b c : Nat, tx b = 2 → tx c = 2 → b = c) (uq_gE : ∀ b c : Nat, tx b = 6 → tx c = 6 → b = c) (uq_gW : ∀ b c : Nat, tx b = 29 → tx c = 29 → b = c) (uq_gA : ∀ b c : Nat, tx b = 31 → tx c = 31 → b = c) (uqm : ∀ b c : Nat, tm b = tm c → tm b ≠ 0 → b = c) (hC0 : 0 ≤ gC.toInt) (hC4 : gC.toInt ≤ 400) (hI0 : 0 ≤ gI.toInt) (hI4 : gI.toInt ≤ 40) (hH0 : 0 ≤ gH) (hH9 : gH ≤ 96) (hm0 : 0 ≤ gM.toInt) (hm3 : gM.toInt ≤ 3) (hO0 : okM K F S N 0 gI.toInt) (hW : swM gS K F S N gI.toInt) (hGb : (G : Int) ≤ 3072 * yi.toInt) (hy0 : 0 ≤ yi.toInt) (hy8 : yi.toInt + 8 ≤ (L : Int)) (hL : L ≤ 4096) (hS : cF h0 s.heap H locs) (hX : va_X b L xs s H) (hl : lv_has ls 4 [(3, .int yi), (2, .ref (h0 + 92)), (1, .ref h0), (0, .ref b)]) (hcl : cells ≤ 600000) (hsl : slots ≤ 7302250) (kx : ∀ (H1 : Heap) (locs1 : List Loc) (gC' : Int32) (gE' : Int32) (G' : Nat) (gW' : Nat → Int32) (gA' : Nat → Int32) (gT' : Nat → Int32) (gI' : Int32) (gS' : Int32) (gM' : Int32) (K' : Nat → Int32) (F' : Nat → Int32) (S' : Nat → Int32) (N' : Nat → Int32) (gH' : Int) (gJ' : Int) (ge' : Int32) (gk' : Int32) (gf' : Int32) (gs' : Int32) (gg' : Int32) (gr' : Int32) (RN' : Nat → Int32), tG D (gF cI cL cC gC' gE' G' gW' gA') tx H1 → tG D (mF cI cL cC gC' gE' gW' gA' gT' gI' gS' gM' K' F' S' N' gH' gJ' ge' gk' gf' gs' gg' gr' RN') tm H1 → 0 ≤ gC'.toInt → gC'.toInt ≤ 400 → 0 ≤ gI'.toInt → gI'.toInt ≤ 40 → 0 ≤ gH' → gH' ≤ 96 → 0 ≤ gM'.toInt → gM'.toInt ≤ 3 → okM K' F' S' N' 0 gI'.toInt → swM gS' K' F' S' N' gI'.toInt → (G' : Int) ≤ 3072 * yi.toInt + 24576 → cF h0 s.heap H1 locs1 → va_X b L xs s H1 → W p l e room_1 s m #[Value.ref b] below meth c H1 locs1 cells slots Q (F0 m 1409 ls [])) : W p l e room_1 s m #[Value.ref b] below meth c H locs cells slots Q (F0 m 876 ls []) := by
  refine lv_aload_n hx hb dL_law_876 rfl (lv_at hl 2 rfl) ?_
  refine lw_argC hx hb hX hl hy0 hy8 hL 1 (by decide) (by decide) dL_law_877 dL_law_878 dL_law_879 dL_law_880 dL_law_881 ?_
  refine lv_pc (pc2 := 882) rfl ?_
  refine lw_argC hx hb hX hl hy0 hy8 hL 2 (by decide) (by decide) dL_law_882 dL_law_883 dL_law_884 dL_law_885 dL_law_886 ?_
  refine lv_pc (pc2 := 887) rfl ?_
  refine lw_argC hx hb hX hl hy0 hy8 hL 3 (by decide) (by decide) dL_law_887 dL_law_888 dL_law_889 dL_law_890 dL_law_891 ?_
  refine lv_pc (pc2 := 892) rfl ?_
  refine lv_i2l (v := (xs (yi.toInt + 3).toNat).toInt64) hx hb dL_law_892 rfl ?_
  refine lv_bipush (v := 32) hx hb dL_law_893 (by decide) ?_
  refine lv_lshl hx hb dL_law_895 rfl ?_
  refine lv_topl (fun z_1 e_2 => ?_)
  refine lv_pc (pc2 := 896) rfl ?_
  refine lw_argC hx hb hX hl hy0 hy8 hL 4 (by decide) (by decide) dL_law_896 dL_law_897 dL_law_898 dL_law_899 dL_law_900 ?_
  refine lv_pc (pc2 := 901) rfl ?_
  refine lv_i2l (v := (xs (yi.toInt + 4).toNat).toInt64) hx hb dL_law_901 rfl ?_
  refine lv_ldc2 hx hb hown (hts (.constantLong RL 13 (4294967295)) (List.mem_of_getElem? (i := 6) rfl)) dL_law_902 ?_
  refine lv_land hx hb dL_law_905 ?_
  refine lv_topl (fun z_3 e_4 => ?_)
  refine lv_lor hx hb dL_law_906 ?_
  refine lv_topl (fun z_5 e_6 => ?_)
  obtain ⟨_, at_7⟩ := rcv1 hG kt
  refine lw_calli (W.runV (As := [.int (xs (yi.toInt + 1).toNat), .int (xs (yi.toInt + 2).toNat), .long z_5]) (rest := []) ⟨hx, hb, hml, hown, hts⟩ (s_X9_chance l D tx cI cL cC gC gE G gW gA h0 (xs (yi.toInt + 1).toNat) (xs (yi.toInt + 2).toNat) z_5 (by omega) kt) (cwV 3 hts gu_L_X9_chance rfl rfl rfl (by decide +kernel) ⟨Nat.le_of_ble_eq_true rfl, Nat.le_of_ble_eq_true rfl⟩) (tP_V hG hE at_7 rfl) rfl rfl hl.1 rfl (lv_room (Nat.le_of_ble_eq_true rfl)) dL_law_907 ⟨hcl, hsl⟩) hS rfl hx0 (fun r_8 H locs hp_9 hG hS o_10 => ?_)
  replace hX := hX.kept (o_10 b (by rw [hx0 b hbl]; rfl))
  replace hM := tG.keptW hM o_10 (fun q h => by rw [dj q h]; rfl)
  refine lv_pop hx hb dL_law_910 rfl ?_
  refine lv_aload_n hx hb dL_law_911 rfl (lv_at hl 1 rfl) ?_
  refine lv_pc (pc2 := 912) rfl ?_
  refine lw_argC hx hb hX hl hy0 hy8 hL 1 (by decide) (by decide) dL_law_912 dL_law_913 dL_law_914 dL_law_915 dL_law_916 ?_
  refine lv_pc (pc2 := 917) rfl ?_
  refine lw_argC hx hb hX hl hy0 hy8 hL 2 (by decide) (by decide) dL_law_917 dL_law_918 dL_law_919 dL_law_920 dL_law_921 ?_
  refine lv_pc (pc2 := 922) rfl ?_
  refine lw_argC hx hb hX hl hy0 hy8 hL 3 (by decide) (by decide) dL_law_922 dL_law_923 dL_law_924 dL_law_925 dL_law_926 ?_
  refine lv_pc (pc2 := 927) rfl ?_
  refine lv_i2l (v := (xs (yi.toInt + 3).toNat).toInt64) hx hb dL_law_927 rfl ?_
  refine lv_bipush (v := 32) hx hb dL_law_928 (by decide) ?_
  refine lv_lshl hx hb dL_law_930 rfl ?_
  refine lv_topl (fun z_11 e_12 => ?_)
  refine lw_argC hx hb hX hl hy0 hy8 hL 4 (by decide) (by decide) dL_law_931 dL_law_932 dL_law_933 dL_law_934 dL_law_935 ?_
  refine lv_pc (pc2 := 936) rfl ?_
  refine lv_i2l (v := (xs (yi.toInt + 4).toNat).toInt64) hx hb dL_law_936 rfl ?_
  refine lv_pc (pc2 := 937) rfl ?_
  refine lv_ldc2 hx hb hown (hts (.constantLong RL 13 (4294967295)) (List.mem_of_getElem? (i := 6) rfl)) dL_law_937 ?_
  refine lv_land hx hb dL_law_940 ?_
  refine lv_topl (fun z_13 e_14 => ?_)
  refine lv_lor hx hb dL_law_941 ?_
  refine lv_topl (fun z_15 e_16 => ?_)
  obtain ⟨_, at_17⟩ := rcv40 hM kt2
  refine lx_calli (W.runV (As := [.int (xs (yi.toInt + 1).toNat), .int (xs (yi.toInt + 2).toNat), .long z_15]) (rest := []) ⟨hx, hb, hml, hown, hts⟩ (m_X10_chance l D tm cI cL cC gC gE gW gA gT gI gS gM K F S N gH gJ ge gk gf gs gg gr RN (h0 + 92) (xs (yi.toInt + 1).toNat) (xs (yi.toInt + 2).toNat) z_15 uqm hC0 hC4 hI0 hI4 hH0 hH9 hm0 hm3 hO0 hW kt2) (cwV 3 hts gu_L_X10_chance rfl rfl rfl (by decide +kernel) ⟨Nat.le_of_ble_eq_true rfl, Nat.le_of_ble_eq_true rfl⟩) (tP_V hM hE at_17 rfl) rfl rfl hl.1 rfl (lv_room (Nat.le_of_ble_eq_true rfl)) dL_law_942 ⟨hcl, hsl⟩) hS rfl hm00 (fun r_18 zz_23 H locs hp_19 hM hS o_20 => ?_)
  obtain ⟨gH_21, gJ_22⟩ := zz_23
  replace hX := hX.kept (o_20 b (by rw [hm00 b hbl]; rfl))
  replace hG := tG.keptW hG o_20 (fun q h => by rw [dj2 q h]; rfl)
  replace hM : tG D (mF cI cL cC gC gE gW gA gT gI gS gM K F S N gH_21 gJ_22 ge gk gf gs gg gr RN) tm H := hM
  have hp_19 : 0 ≤ gH_21 ∧ gH_21 ≤ 96 := hp_19
  obtain ⟨p_24, p_25⟩ := hp_19
  refine lv_pop hx hb dL_law_945 rfl ?_
  refine lv_goto (tgt := 1409) hx hb dL_law_946 (by decide) ?_
  exact kx H locs _ _ _ _ _ _ _ _ _ _ _ _ _ _ _ _ _ _ _ _ _ _ hG hM hC0 hC4 hI0 hI4 p_24 p_25 hm0 hm3 hO0 hW (by omega) hS hX
