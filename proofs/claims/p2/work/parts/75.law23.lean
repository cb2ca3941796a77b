theorem dL_law_949 : decode cL_law 949 = .ok (.aload_n 1, 1) := by decide +kernel
theorem dL_law_950 : decode cL_law 950 = .ok (.aload_n 0, 1) := by decide +kernel
theorem dL_law_951 : decode cL_law 951 = .ok (.iload_n 3, 1) := by decide +kernel
theorem dL_law_952 : decode cL_law 952 = .ok (.iconst 1, 1) := by decide +kernel
theorem dL_law_953 : decode cL_law 953 = .ok (.iadd, 1) := by decide +kernel
theorem dL_law_954 : decode cL_law 954 = .ok (.iaload, 1) := by decide +kernel
theorem dL_law_955 : decode cL_law 955 = .ok (.aload_n 0, 1) := by decide +kernel
theorem dL_law_956 : decode cL_law 956 = .ok (.iload_n 3, 1) := by decide +kernel
theorem dL_law_957 : decode cL_law 957 = .ok (.iconst 2, 1) := by decide +kernel
theorem dL_law_958 : decode cL_law 958 = .ok (.iadd, 1) := by decide +kernel
theorem dL_law_959 : decode cL_law 959 = .ok (.iaload, 1) := by decide +kernel
theorem dL_law_960 : decode cL_law 960 = .ok (.aload_n 0, 1) := by decide +kernel
theorem dL_law_961 : decode cL_law 961 = .ok (.iload_n 3, 1) := by decide +kernel
theorem dL_law_962 : decode cL_law 962 = .ok (.iconst 3, 1) := by decide +kernel
theorem dL_law_963 : decode cL_law 963 = .ok (.iadd, 1) := by decide +kernel
theorem dL_law_964 : decode cL_law 964 = .ok (.iaload, 1) := by decide +kernel
theorem dL_law_965 : decode cL_law 965 = .ok (.i2l, 1) := by decide +kernel
theorem dL_law_966 : decode cL_law 966 = .ok (.bipush 32, 2) := by decide +kernel
theorem dL_law_968 : decode cL_law 968 = .ok (.lshl, 1) := by decide +kernel
theorem dL_law_969 : decode cL_law 969 = .ok (.aload_n 0, 1) := by decide +kernel
theorem dL_law_970 : decode cL_law 970 = .ok (.iload_n 3, 1) := by decide +kernel
theorem dL_law_971 : decode cL_law 971 = .ok (.iconst 4, 1) := by decide +kernel
theorem dL_law_972 : decode cL_law 972 = .ok (.iadd, 1) := by decide +kernel
theorem dL_law_973 : decode cL_law 973 = .ok (.iaload, 1) := by decide +kernel
theorem dL_law_974 : decode cL_law 974 = .ok (.i2l, 1) := by decide +kernel
theorem dL_law_975 : decode cL_law 975 = .ok (.ldc2_w 13, 3) := by decide +kernel
theorem dL_law_978 : decode cL_law 978 = .ok (.land, 1) := by decide +kernel
theorem dL_law_979 : decode cL_law 979 = .ok (.lor, 1) := by decide +kernel
theorem dL_law_980 : decode cL_law 980 = .ok (.aload_n 0, 1) := by decide +kernel
theorem dL_law_981 : decode cL_law 981 = .ok (.iload_n 3, 1) := by decide +kernel
theorem dL_law_982 : decode cL_law 982 = .ok (.iconst 5, 1) := by decide +kernel
theorem dL_law_983 : decode cL_law 983 = .ok (.iadd, 1) := by decide +kernel
theorem dL_law_984 : decode cL_law 984 = .ok (.iaload, 1) := by decide +kernel
theorem dL_law_985 : decode cL_law 985 = .ok (.invokevirtual 117, 3) := by decide +kernel
theorem dL_law_988 : decode cL_law 988 = .ok (.pop, 1) := by decide +kernel
theorem dL_law_989 : decode cL_law 989 = .ok (.aload_n 2, 1) := by decide +kernel
theorem dL_law_990 : decode cL_law 990 = .ok (.aload_n 0, 1) := by decide +kernel
theorem dL_law_991 : decode cL_law 991 = .ok (.iload_n 3, 1) := by decide +kernel
theorem dL_law_992 : decode cL_law 992 = .ok (.iconst 1, 1) := by decide +kernel
theorem dL_law_993 : decode cL_law 993 = .ok (.iadd, 1) := by decide +kernel
theorem dL_law_994 : decode cL_law 994 = .ok (.iaload, 1) := by decide +kernel
theorem dL_law_995 : decode cL_law 995 = .ok (.aload_n 0, 1) := by decide +kernel
theorem dL_law_996 : decode cL_law 996 = .ok (.iload_n 3, 1) := by decide +kernel
theorem dL_law_997 : decode cL_law 997 = .ok (.iconst 2, 1) := by decide +kernel
theorem dL_law_998 : decode cL_law 998 = .ok (.iadd, 1) := by decide +kernel
theorem dL_law_999 : decode cL_law 999 = .ok (.iaload, 1) := by decide +kernel
theorem dL_law_1000 : decode cL_law 1000 = .ok (.aload_n 0, 1) := by decide +kernel
theorem dL_law_1001 : decode cL_law 1001 = .ok (.iload_n 3, 1) := by decide +kernel
theorem dL_law_1002 : decode cL_law 1002 = .ok (.iconst 3, 1) := by decide +kernel
theorem dL_law_1003 : decode cL_law 1003 = .ok (.iadd, 1) := by decide +kernel
theorem dL_law_1004 : decode cL_law 1004 = .ok (.iaload, 1) := by decide +kernel
theorem dL_law_1005 : decode cL_law 1005 = .ok (.i2l, 1) := by decide +kernel
theorem dL_law_1006 : decode cL_law 1006 = .ok (.bipush 32, 2) := by decide +kernel
theorem dL_law_1008 : decode cL_law 1008 = .ok (.lshl, 1) := by decide +kernel
theorem dL_law_1009 : decode cL_law 1009 = .ok (.aload_n 0, 1) := by decide +kernel
theorem dL_law_1010 : decode cL_law 1010 = .ok (.iload_n 3, 1) := by decide +kernel
theorem dL_law_1011 : decode cL_law 1011 = .ok (.iconst 4, 1) := by decide +kernel
theorem dL_law_1012 : decode cL_law 1012 = .ok (.iadd, 1) := by decide +kernel
theorem dL_law_1013 : decode cL_law 1013 = .ok (.iaload, 1) := by decide +kernel
theorem dL_law_1014 : decode cL_law 1014 = .ok (.i2l, 1) := by decide +kernel
theorem dL_law_1015 : decode cL_law 1015 = .ok (.ldc2_w 13, 3) := by decide +kernel
theorem dL_law_1018 : decode cL_law 1018 = .ok (.land, 1) := by decide +kernel
theorem dL_law_1019 : decode cL_law 1019 = .ok (.lor, 1) := by decide +kernel
theorem dL_law_1020 : decode cL_law 1020 = .ok (.aload_n 0, 1) := by decide +kernel
theorem dL_law_1021 : decode cL_law 1021 = .ok (.iload_n 3, 1) := by decide +kernel
theorem dL_law_1022 : decode cL_law 1022 = .ok (.iconst 5, 1) := by decide +kernel
theorem dL_law_1023 : decode cL_law 1023 = .ok (.iadd, 1) := by decide +kernel
theorem dL_law_1024 : decode cL_law 1024 = .ok (.iaload, 1) := by decide +kernel
theorem dL_law_1025 : decode cL_law 1025 = .ok (.invokevirtual 121, 3) := by decide +kernel
theorem dL_law_1028 : decode cL_law 1028 = .ok (.pop, 1) := by decide +kernel
theorem dL_law_1029 : decode cL_law 1029 = .ok (.goto 380, 3) := by decide +kernel
set_option maxRecDepth 20000 in
theorem gu_L_X9_warn : GoodIn wsL_law (wsV RL 117 RX9 yX9_warn uX9_warn) := goodIn_r _ [884, 885, 886, 2, 887, 608, 609, 2, 168, 169, 623, 624, 625, 848, 849, 850, 852, 853, 854, 51, 888, 889, 890, 50, 856, 857, 858, 892, 893, 894, 610, 170, 626, 23, 43, 627, 628, 629, 42, 630, 98, 851, 35, 428, 855, 819, 859, 36, 861, 862, 863, 34, 866, 836, 837, 20, 28, 750, 446, 447, 27, 751, 450, 451, 631, 632, 633, 860, 463, 464, 465, 749, 442, 443, 864, 86, 865, 724, 725, 726, 87, 88, 89, 90, 91, 92, 93, 838, 821, 116, 822, 448, 77, 452, 454, 455, 456, 453, 458, 459, 460, 489, 490, 491, 457, 461, 471, 353, 354, 19, 223, 479, 480, 481, 483, 484, 485, 466, 467, 468, 472, 473, 469, 475, 476, 477, 462, 470, 355, 66, 224, 482, 71, 68, 486, 487, 488, 474, 478, 250, 251, 252, 67, 352, 253, 492, 493, 494, 495, 496, 634, 637, 99, 636, 274, 635, 275, 444, 76, 891, 114, 895, 115, 1064, 1065, 1066, 1067, 1068, 1069, 1070, 1071, 1072, 1073, 1074, 1075, 1076, 1077, 1078, 1079, 1080, 1081, 1138, 1139, 1140, 1141, 1130, 1131, 1132, 1133, 1134, 1135, 1136, 1137, 1147, 1148, 1149, 1128, 1129, 1122, 1123, 1124, 1125, 1126, 1127] rfl (by decide +kernel)
set_option maxRecDepth 20000 in
theorem gu_L_X10_warn : GoodIn wsL_law (wsV RL 121 RX10 yX10_warn uX10_warn) := goodIn_r _ [896, 897, 898, 5, 899, 575, 182, 183, 5, 871, 320, 872, 873, 874, 153, 876, 877, 878, 880, 881, 882, 155, 184, 875, 642, 643, 644, 142, 501, 645, 370, 145, 879, 883, 785, 786, 787, 545, 789, 790, 791, 154, 141, 506, 507, 508, 646, 647, 648, 788, 143, 792, 509, 365, 137, 510, 511, 512, 138, 139, 140, 513, 514, 519, 520, 521, 515, 516, 517, 522, 518, 381, 382, 383, 384, 649, 146, 1082, 1083, 1084, 1085, 1086, 1087, 1088, 1089, 1090, 1091, 1092, 1093, 1094, 1095, 1096, 1097, 1098, 1099, 1100, 1101, 1102, 1103, 1104, 1105, 1106, 1107, 1108, 1109, 1110, 1111, 1112, 1113, 1114, 1115, 1116, 1117] rfl (by decide +kernel)
set_option maxHeartbeats 4000000 in
set_option maxRecDepth 100000 in
theorem lc_23 {p : Program} {l : Launch} {e : Env} {s : State} {m : MethodId} {below : List Frame} {meth : Method} {c : Code} {cells slots : Nat} {Q : State → Prop} {b h0 L : Nat} {xs : Nat → Int32} {yi : Int32} {D : va_G} {cI cL cC : ClassId} {tx tm : Nat → Nat} {H : Heap} {locs : List Loc} {ls : Array Slot} {gC : Int32} {gE : Int32} {G : Nat} {gW : Nat → Int32} {gA : Nat → Int32} {gT : Nat → Int32} {gI : Int32} {gS : Int32} {gM : Int32} {K : Nat → Int32} {F : Nat → Int32} {S : Nat → Int32} {N : Nat → Int32} {gH : Int} {gJ : Int} {ge : Int32} {gk : Int32} {gf : Int32} {gs : Int32} {gg : Int32} {gr : Int32} {RN : Nat → Int32} (hx : p.tables.exec = Jvm.exec) (hb : c.code = cL_law) (hml : c.maxLocals = 4) (hown : s.vm.findClass RL = some m.cls) (hts : ∀ w ∈ wsL_law, w.before #[Value.ref b] s = true) (hE : EV D cI cL cC s) (hbl : b < h0) (hG : tG D (gF cI cL cC gC gE G gW gA) tx H) (hM : tG D (mF cI cL cC gC gE gW gA gT gI gS gM K F S N gH gJ ge gk gf gs gg gr RN) tm H) (kt : tx h0 = 1) (kt2 : tm (h0 + 92) = 40) (hx0 : ∀ q : Nat, q < h0 → tx q = 0) (hm00 : ∀ q : Nat, q < h0 → tm q = 0) (dj : ∀ q : Nat, tm q ≠ 0 → tx q = 0) (dj2 : ∀ q : Nat, tx q ≠ 0 → tm q = 0) (uq_gC : ∀ b c : Nat, tx b = 2 → tx c = 2 → b = c) (uq_gE : ∀ b c : Nat, tx b = 6 → tx c = 6 → b = c) (uq_gW : ∀ b c : Nat, tx b = 29 → tx c = 29 → b = c) (uq_gA : ∀ b c : Nat, tx b = 31 → tx c = 31 → b = c) (uqm : ∀ b c : Nat, tm b = tm c → tm b ≠ 0 → b = c) (hC0 : 0 ≤ gC.toInt) (hC4 : gC.toInt ≤ 400) (hI0 : 0 ≤ gI.toInt) (hI4 : gI.toInt ≤ 40) (hH0 : 0 ≤ gH) (hH9 : gH ≤ 96) (hm0 : 0 ≤ gM.toInt) (hm3 : gM.toInt ≤ 3) (hO0 : okM K F S N 0 gI.toInt) (hW : swM gS K F S N gI.toInt) (hGb : (G : Int) ≤ 3072 * yi.toInt) (hy0 : 0 ≤ yi.toInt) (hy8 : yi.toInt + 8 ≤ (L : Int)) (hL : L ≤ 4096) (hS : cF h0 s.heap H locs) (hX : va_X b L xs s H) (hl : lv_has ls 4 [(3, .int yi), (2, .ref (h0 + 92)), (1, .ref h0), (0, .ref b)]) (hcl : cells ≤ 600000) (hsl : slots ≤ 7302250) (kx : ∀ (H1 : Heap) (locs1 : List Loc) (gC' : Int32) (gE' : Int32) (G' : Nat) (gW' : Nat → Int32) (gA' : Nat → Int32) (gT' : Nat → Int32) (gI' : Int32) (gS' : Int32) (gM' : Int32) (K' : Nat → Int32) (F' : Nat → Int32) (S' : Nat → Int32) (N' : Nat → Int32) (gH' : Int) (gJ' : Int) (ge' : Int32) (gk' : Int32) (gf' : Int32) (gs' : Int32) (gg' : Int32) (gr' : Int32) (RN' : Nat → Int32), tG D (gF cI cL cC gC' gE' G' gW' gA') tx H1 → tG D (mF cI cL cC gC' gE' gW' gA' gT' gI' gS' gM' K' F' S' N' gH' gJ' ge' gk' gf' gs' gg' gr' RN') tm H1 → 0 ≤ gC'.toInt → gC'.toInt ≤ 400 → 0 ≤ gI'.toInt → gI'.toInt ≤ 40 → 0 ≤ gH' → gH' ≤ 96 → 0 ≤ gM'.toInt → gM'.toInt ≤ 3 → okM K' F' S' N' 0 gI'.toInt → swM gS' K' F' S' N' gI'.toInt → (G' : Int) ≤ 3072 * yi.toInt + 24576 → cF h0 s.heap H1 locs1 → va_X b L xs s H1 → W p l e room_1 s m #[Value.ref b] below meth c H1 locs1 cells slots Q (F0 m 1409 ls [])) : W p l e room_1 s m #[Value.ref b] below meth c H locs cells slots Q (F0 m 949 ls []) := by
  refine lv_aload_n hx hb dL_law_949 rfl (lv_at hl 2 rfl) ?_
  refine lw_argC hx hb hX hl hy0 hy8 hL 1 (by decide) (by decide) dL_law_950 dL_law_951 dL_law_952 dL_law_953 dL_law_954 ?_
  refine lv_pc (pc2 := 955) rfl ?_
  refine lw_argC hx hb hX hl hy0 hy8 hL 2 (by decide) (by decide) dL_law_955 dL_law_956 dL_law_957 dL_law_958 dL_law_959 ?_
  refine lv_pc (pc2 := 960) rfl ?_
  refine lw_argC hx hb hX hl hy0 hy8 hL 3 (by decide) (by decide) dL_law_960 dL_law_961 dL_law_962 dL_law_963 dL_law_964 ?_
  refine lv_pc (pc2 := 965) rfl ?_
  refine lv_i2l (v := (xs (yi.toInt + 3).toNat).toInt64) hx hb dL_law_965 rfl ?_
  refine lv_bipush (v := 32) hx hb dL_law_966 (by decide) ?_
  refine lv_lshl hx hb dL_law_968 rfl ?_
  refine lv_topl (fun z_1 e_2 => ?_)
  refine lv_pc (pc2 := 969) rfl ?_
  refine lw_argC hx hb hX hl hy0 hy8 hL 4 (by decide) (by decide) dL_law_969 dL_law_970 dL_law_971 dL_law_972 dL_law_973 ?_
  refine lv_pc (pc2 := 974) rfl ?_
  refine lv_i2l (v := (xs (yi.toInt + 4).toNat).toInt64) hx hb dL_law_974 rfl ?_
  refine lv_ldc2 hx hb hown (hts (.constantLong RL 13 (4294967295)) (List.mem_of_getElem? (i := 6) rfl)) dL_law_975 ?_
  refine lv_land hx hb dL_law_978 ?_
  refine lv_topl (fun z_3 e_4 => ?_)
  refine lv_lor hx hb dL_law_979 ?_
  refine lv_topl (fun z_5 e_6 => ?_)
  refine lw_argC hx hb hX hl hy0 hy8 hL 5 (by decide) (by decide) dL_law_980 dL_law_981 dL_law_982 dL_law_983 dL_law_984 ?_
  refine lv_pc (pc2 := 985) rfl ?_
  obtain ⟨_, at_7⟩ := rcv1 hG kt
  refine lw_calli (W.runV (As := [.int (xs (yi.toInt + 1).toNat), .int (xs (yi.toInt + 2).toNat), .long z_5, .int (xs (yi.toInt + 5).toNat)]) (rest := []) ⟨hx, hb, hml, hown, hts⟩ (s_X9_warn l D tx cI cL cC gC gE G gW gA h0 (xs (yi.toInt + 1).toNat) (xs (yi.toInt + 2).toNat) z_5 (xs (yi.toInt + 5).toNat) (by omega) kt) (cwV 4 hts gu_L_X9_warn rfl rfl rfl (by decide +kernel) ⟨Nat.le_of_ble_eq_true rfl, Nat.le_of_ble_eq_true rfl⟩) (tP_V hG hE at_7 rfl) rfl rfl hl.1 rfl (lv_room (Nat.le_of_ble_eq_true rfl)) dL_law_985 ⟨hcl, hsl⟩) hS rfl hx0 (fun r_8 H locs hp_9 hG hS o_10 => ?_)
  replace hX := hX.kept (o_10 b (by rw [hx0 b hbl]; rfl))
  replace hM := tG.keptW hM o_10 (fun q h => by rw [dj q h]; rfl)
  refine lv_pop hx hb dL_law_988 rfl ?_
  refine lv_pc (pc2 := 989) rfl ?_
  refine lv_aload_n hx hb dL_law_989 rfl (lv_at hl 1 rfl) ?_
  refine lw_argC hx hb hX hl hy0 hy8 hL 1 (by decide) (by decide) dL_law_990 dL_law_991 dL_law_992 dL_law_993 dL_law_994 ?_
  refine lv_pc (pc2 := 995) rfl ?_
  refine lw_argC hx hb hX hl hy0 hy8 hL 2 (by decide) (by decide) dL_law_995 dL_law_996 dL_law_997 dL_law_998 dL_law_999 ?_
  refine lv_pc (pc2 := 1000) rfl ?_
  refine lw_argC hx hb hX hl hy0 hy8 hL 3 (by decide) (by decide) dL_law_1000 dL_law_1001 dL_law_1002 dL_law_1003 dL_law_1004 ?_
  refine lv_pc (pc2 := 1005) rfl ?_
  refine lv_i2l (v := (xs (yi.toInt + 3).toNat).toInt64) hx hb dL_law_1005 rfl ?_
  refine lv_bipush (v := 32) hx hb dL_law_1006 (by decide) ?_
  refine lv_lshl hx hb dL_law_1008 rfl ?_
  refine lv_topl (fun z_11 e_12 => ?_)
  refine lw_argC hx hb hX hl hy0 hy8 hL 4 (by decide) (by decide) dL_law_1009 dL_law_1010 dL_law_1011 dL_law_1012 dL_law_1013 ?_
  refine lv_pc (pc2 := 1014) rfl ?_
  refine lv_pc (pc2 := 1014) rfl ?_
  refine lv_i2l (v := (xs (yi.toInt + 4).toNat).toInt64) hx hb dL_law_1014 rfl ?_
  refine lv_ldc2 hx hb hown (hts (.constantLong RL 13 (4294967295)) (List.mem_of_getElem? (i := 6) rfl)) dL_law_1015 ?_
  refine lv_land hx hb dL_law_1018 ?_
  refine lv_topl (fun z_13 e_14 => ?_)
  refine lv_lor hx hb dL_law_1019 ?_
  refine lv_topl (fun z_15 e_16 => ?_)
  refine lw_argC hx hb hX hl hy0 hy8 hL 5 (by decide) (by decide) dL_law_1020 dL_law_1021 dL_law_1022 dL_law_1023 dL_law_1024 ?_
  refine lv_pc (pc2 := 1025) rfl ?_
  obtain ⟨_, at_17⟩ := rcv40 hM kt2
  refine lx_calli (W.runV (As := [.int (xs (yi.toInt + 1).toNat), .int (xs (yi.toInt + 2).toNat), .long z_15, .int (xs (yi.toInt + 5).toNat)]) (rest := []) ⟨hx, hb, hml, hown, hts⟩ (m_X10_warn l D tm cI cL cC gC gE gW gA gT gI gS gM K F S N gH gJ ge gk gf gs gg gr RN (h0 + 92) (xs (yi.toInt + 1).toNat) (xs (yi.toInt + 2).toNat) z_15 (xs (yi.toInt + 5).toNat) uqm hC0 hC4 hI0 hI4 hH0 hH9 hm0 hm3 hO0 hW kt2) (cwV 4 hts gu_L_X10_warn rfl rfl rfl (by decide +kernel) ⟨Nat.le_of_ble_eq_true rfl, Nat.le_of_ble_eq_true rfl⟩) (tP_V hM hE at_17 rfl) rfl rfl hl.1 rfl (lv_room (Nat.le_of_ble_eq_true rfl)) dL_law_1025 ⟨hcl, hsl⟩) hS rfl hm00 (fun r_18 zz_23 H locs hp_19 hM hS o_20 => ?_)
  obtain ⟨gH_21, gJ_22⟩ := zz_23
  replace hX := hX.kept (o_20 b (by rw [hm00 b hbl]; rfl))
  replace hG := tG.keptW hG o_20 (fun q h => by rw [dj2 q h]; rfl)
  replace hM : tG D (mF cI cL cC gC gE gW gA gT gI gS gM K F S N gH_21 gJ_22 ge gk gf gs gg gr RN) tm H := hM
  have hp_19 : 0 ≤ gH_21 ∧ gH_21 ≤ 96 := hp_19
  obtain ⟨p_24, p_25⟩ := hp_19
  refine lv_pop hx hb dL_law_1028 rfl ?_
  refine lv_goto (tgt := 1409) hx hb dL_law_1029 (by decide) ?_
  exact kx H locs _ _ _ _ _ _ _ _ _ _ _ _ _ _ _ _ _ _ _ _ _ _ hG hM hC0 hC4 hI0 hI4 p_24 p_25 hm0 hm3 hO0 hW (by omega) hS hX
