theorem dL_law_1098 : decode cL_law 1098 = .ok (.aload_n 1, 1) := by decide +kernel
theorem dL_law_1099 : decode cL_law 1099 = .ok (.aload_n 0, 1) := by decide +kernel
theorem dL_law_1100 : decode cL_law 1100 = .ok (.iload_n 3, 1) := by decide +kernel
theorem dL_law_1101 : decode cL_law 1101 = .ok (.iconst 1, 1) := by decide +kernel
theorem dL_law_1102 : decode cL_law 1102 = .ok (.iadd, 1) := by decide +kernel
theorem dL_law_1103 : decode cL_law 1103 = .ok (.iaload, 1) := by decide +kernel
theorem dL_law_1104 : decode cL_law 1104 = .ok (.aload_n 0, 1) := by decide +kernel
theorem dL_law_1105 : decode cL_law 1105 = .ok (.iload_n 3, 1) := by decide +kernel
theorem dL_law_1106 : decode cL_law 1106 = .ok (.iconst 2, 1) := by decide +kernel
theorem dL_law_1107 : decode cL_law 1107 = .ok (.iadd, 1) := by decide +kernel
theorem dL_law_1108 : decode cL_law 1108 = .ok (.iaload, 1) := by decide +kernel
theorem dL_law_1109 : decode cL_law 1109 = .ok (.aload_n 0, 1) := by decide +kernel
theorem dL_law_1110 : decode cL_law 1110 = .ok (.iload_n 3, 1) := by decide +kernel
theorem dL_law_1111 : decode cL_law 1111 = .ok (.iconst 3, 1) := by decide +kernel
theorem dL_law_1112 : decode cL_law 1112 = .ok (.iadd, 1) := by decide +kernel
theorem dL_law_1113 : decode cL_law 1113 = .ok (.iaload, 1) := by decide +kernel
theorem dL_law_1114 : decode cL_law 1114 = .ok (.aload_n 0, 1) := by decide +kernel
theorem dL_law_1115 : decode cL_law 1115 = .ok (.iload_n 3, 1) := by decide +kernel
theorem dL_law_1116 : decode cL_law 1116 = .ok (.iconst 4, 1) := by decide +kernel
theorem dL_law_1117 : decode cL_law 1117 = .ok (.iadd, 1) := by decide +kernel
theorem dL_law_1118 : decode cL_law 1118 = .ok (.iaload, 1) := by decide +kernel
theorem dL_law_1119 : decode cL_law 1119 = .ok (.aload_n 0, 1) := by decide +kernel
theorem dL_law_1120 : decode cL_law 1120 = .ok (.iload_n 3, 1) := by decide +kernel
theorem dL_law_1121 : decode cL_law 1121 = .ok (.iconst 5, 1) := by decide +kernel
theorem dL_law_1122 : decode cL_law 1122 = .ok (.iadd, 1) := by decide +kernel
theorem dL_law_1123 : decode cL_law 1123 = .ok (.iaload, 1) := by decide +kernel
theorem dL_law_1124 : decode cL_law 1124 = .ok (.i2l, 1) := by decide +kernel
theorem dL_law_1125 : decode cL_law 1125 = .ok (.bipush 32, 2) := by decide +kernel
theorem dL_law_1127 : decode cL_law 1127 = .ok (.lshl, 1) := by decide +kernel
theorem dL_law_1128 : decode cL_law 1128 = .ok (.aload_n 0, 1) := by decide +kernel
theorem dL_law_1129 : decode cL_law 1129 = .ok (.iload_n 3, 1) := by decide +kernel
theorem dL_law_1130 : decode cL_law 1130 = .ok (.bipush 6, 2) := by decide +kernel
theorem dL_law_1132 : decode cL_law 1132 = .ok (.iadd, 1) := by decide +kernel
theorem dL_law_1133 : decode cL_law 1133 = .ok (.iaload, 1) := by decide +kernel
theorem dL_law_1134 : decode cL_law 1134 = .ok (.i2l, 1) := by decide +kernel
theorem dL_law_1135 : decode cL_law 1135 = .ok (.ldc2_w 13, 3) := by decide +kernel
theorem dL_law_1138 : decode cL_law 1138 = .ok (.land, 1) := by decide +kernel
theorem dL_law_1139 : decode cL_law 1139 = .ok (.lor, 1) := by decide +kernel
theorem dL_law_1140 : decode cL_law 1140 = .ok (.aload_n 0, 1) := by decide +kernel
theorem dL_law_1141 : decode cL_law 1141 = .ok (.iload_n 3, 1) := by decide +kernel
theorem dL_law_1142 : decode cL_law 1142 = .ok (.bipush 7, 2) := by decide +kernel
theorem dL_law_1144 : decode cL_law 1144 = .ok (.iadd, 1) := by decide +kernel
theorem dL_law_1145 : decode cL_law 1145 = .ok (.iaload, 1) := by decide +kernel
theorem dL_law_1146 : decode cL_law 1146 = .ok (.invokevirtual 131, 3) := by decide +kernel
theorem dL_law_1149 : decode cL_law 1149 = .ok (.pop2, 1) := by decide +kernel
theorem dL_law_1150 : decode cL_law 1150 = .ok (.aload_n 2, 1) := by decide +kernel
theorem dL_law_1151 : decode cL_law 1151 = .ok (.aload_n 0, 1) := by decide +kernel
theorem dL_law_1152 : decode cL_law 1152 = .ok (.iload_n 3, 1) := by decide +kernel
theorem dL_law_1153 : decode cL_law 1153 = .ok (.iconst 1, 1) := by decide +kernel
theorem dL_law_1154 : decode cL_law 1154 = .ok (.iadd, 1) := by decide +kernel
theorem dL_law_1155 : decode cL_law 1155 = .ok (.iaload, 1) := by decide +kernel
theorem dL_law_1156 : decode cL_law 1156 = .ok (.aload_n 0, 1) := by decide +kernel
theorem dL_law_1157 : decode cL_law 1157 = .ok (.iload_n 3, 1) := by decide +kernel
theorem dL_law_1158 : decode cL_law 1158 = .ok (.iconst 2, 1) := by decide +kernel
theorem dL_law_1159 : decode cL_law 1159 = .ok (.iadd, 1) := by decide +kernel
theorem dL_law_1160 : decode cL_law 1160 = .ok (.iaload, 1) := by decide +kernel
theorem dL_law_1161 : decode cL_law 1161 = .ok (.aload_n 0, 1) := by decide +kernel
theorem dL_law_1162 : decode cL_law 1162 = .ok (.iload_n 3, 1) := by decide +kernel
theorem dL_law_1163 : decode cL_law 1163 = .ok (.iconst 3, 1) := by decide +kernel
theorem dL_law_1164 : decode cL_law 1164 = .ok (.iadd, 1) := by decide +kernel
theorem dL_law_1165 : decode cL_law 1165 = .ok (.iaload, 1) := by decide +kernel
theorem dL_law_1166 : decode cL_law 1166 = .ok (.aload_n 0, 1) := by decide +kernel
theorem dL_law_1167 : decode cL_law 1167 = .ok (.iload_n 3, 1) := by decide +kernel
theorem dL_law_1168 : decode cL_law 1168 = .ok (.iconst 4, 1) := by decide +kernel
theorem dL_law_1169 : decode cL_law 1169 = .ok (.iadd, 1) := by decide +kernel
theorem dL_law_1170 : decode cL_law 1170 = .ok (.iaload, 1) := by decide +kernel
theorem dL_law_1171 : decode cL_law 1171 = .ok (.aload_n 0, 1) := by decide +kernel
theorem dL_law_1172 : decode cL_law 1172 = .ok (.iload_n 3, 1) := by decide +kernel
theorem dL_law_1173 : decode cL_law 1173 = .ok (.iconst 5, 1) := by decide +kernel
theorem dL_law_1174 : decode cL_law 1174 = .ok (.iadd, 1) := by decide +kernel
theorem dL_law_1175 : decode cL_law 1175 = .ok (.iaload, 1) := by decide +kernel
theorem dL_law_1176 : decode cL_law 1176 = .ok (.i2l, 1) := by decide +kernel
theorem dL_law_1177 : decode cL_law 1177 = .ok (.bipush 32, 2) := by decide +kernel
theorem dL_law_1179 : decode cL_law 1179 = .ok (.lshl, 1) := by decide +kernel
theorem dL_law_1180 : decode cL_law 1180 = .ok (.aload_n 0, 1) := by decide +kernel
theorem dL_law_1181 : decode cL_law 1181 = .ok (.iload_n 3, 1) := by decide +kernel
theorem dL_law_1182 : decode cL_law 1182 = .ok (.bipush 6, 2) := by decide +kernel
theorem dL_law_1184 : decode cL_law 1184 = .ok (.iadd, 1) := by decide +kernel
theorem dL_law_1185 : decode cL_law 1185 = .ok (.iaload, 1) := by decide +kernel
theorem dL_law_1186 : decode cL_law 1186 = .ok (.i2l, 1) := by decide +kernel
theorem dL_law_1187 : decode cL_law 1187 = .ok (.ldc2_w 13, 3) := by decide +kernel
theorem dL_law_1190 : decode cL_law 1190 = .ok (.land, 1) := by decide +kernel
theorem dL_law_1191 : decode cL_law 1191 = .ok (.lor, 1) := by decide +kernel
theorem dL_law_1192 : decode cL_law 1192 = .ok (.aload_n 0, 1) := by decide +kernel
theorem dL_law_1193 : decode cL_law 1193 = .ok (.iload_n 3, 1) := by decide +kernel
theorem dL_law_1194 : decode cL_law 1194 = .ok (.bipush 7, 2) := by decide +kernel
theorem dL_law_1196 : decode cL_law 1196 = .ok (.iadd, 1) := by decide +kernel
theorem dL_law_1197 : decode cL_law 1197 = .ok (.iaload, 1) := by decide +kernel
theorem dL_law_1198 : decode cL_law 1198 = .ok (.invokevirtual 135, 3) := by decide +kernel
theorem dL_law_1201 : decode cL_law 1201 = .ok (.pop2, 1) := by decide +kernel
theorem dL_law_1202 : decode cL_law 1202 = .ok (.goto 207, 3) := by decide +kernel
set_option maxRecDepth 20000 in
theorem gu_L_X9_best : GoodIn wsL_law (wsV RL 131 RX9 yX9_best uX9_best) := goodIn_r _ [917, 918, 919, 2, 920, 565, 487, 2, 527, 168, 169, 608, 609, 530, 223, 566, 567, 568, 623, 624, 625, 531, 532, 533, 848, 849, 850, 55, 925, 926, 927, 54, 20, 28, 43, 35, 929, 930, 921, 924, 923, 922, 528, 488, 170, 610, 224, 569, 23, 570, 626, 627, 628, 629, 42, 630, 98, 534, 535, 251, 252, 19, 253, 67, 851, 428, 928, 127, 128, 129, 130, 131, 125, 931, 122, 123, 933, 862, 863, 34, 934, 935, 936, 932, 951, 126, 864, 86, 865, 724, 725, 726, 87, 88, 89, 90, 91, 92, 93, 937, 938, 939, 942, 442, 443, 27, 943, 446, 447, 944, 450, 451, 940, 945, 632, 633, 941, 463, 464, 465, 444, 76, 448, 77, 452, 454, 455, 456, 453, 458, 459, 460, 489, 490, 491, 457, 461, 471, 353, 354, 479, 480, 481, 483, 484, 485, 466, 467, 468, 472, 473, 469, 475, 476, 477, 462, 470, 355, 66, 482, 71, 68, 486, 474, 478, 250, 352, 492, 493, 494, 495, 496, 634, 637, 99, 636, 274, 635, 275, 946, 947, 948, 949, 124, 950, 1064, 1065, 1066, 1067, 1068, 1069, 1070, 1071, 1072, 1073, 1074, 1075, 1076, 1077, 1078, 1079, 1080, 1081, 1150, 1151, 1152, 1153, 1154, 1155, 1156, 1157, 1158, 1159, 1122, 1123, 1124, 1125, 1126, 1127, 1138, 1139, 1140, 1141, 1130, 1131, 1132, 1133, 1134, 1135, 1136, 1137, 1128, 1129] rfl (by decide +kernel)
set_option maxRecDepth 20000 in
theorem gu_L_X10_best : GoodIn wsL_law (wsV RL 135 RX10 yX10_best uX10_best) := goodIn_r _ [952, 953, 954, 5, 955, 575, 182, 183, 5, 956, 544, 545, 872, 873, 874, 576, 577, 578, 546, 392, 393, 394, 697, 957, 958, 959, 960, 184, 875, 642, 643, 644, 142, 501, 645, 370, 145, 579, 365, 137, 395, 381, 382, 383, 384, 138, 961, 785, 786, 787, 789, 790, 791, 502, 503, 504, 646, 647, 648, 788, 143, 792, 505, 141, 506, 507, 508, 509, 510, 511, 512, 139, 140, 513, 514, 519, 520, 521, 320, 515, 516, 517, 522, 518, 649, 146, 1082, 1083, 1084, 1085, 1086, 1087, 1088, 1089, 1090, 1091, 1092, 1093, 1094, 1095, 1096, 1097, 1098, 1099, 1100, 1101, 1102, 1103, 1104, 1105, 1106, 1107, 1108, 1109, 1110, 1111, 1112, 1113, 1114, 1115, 1116, 1117] rfl (by decide +kernel)
set_option maxHeartbeats 4000000 in
set_option maxRecDepth 100000 in
theorem lc_26 {p : Program} {l : Launch} {e : Env} {s : State} {m : MethodId} {below : List Frame} {meth : Method} {c : Code} {cells slots : Nat} {Q : State → Prop} {b h0 L : Nat} {xs : Nat → Int32} {yi : Int32} {D : va_G} {cI cL cC : ClassId} {tx tm : Nat → Nat} {H : Heap} {locs : List Loc} {ls : Array Slot} {gC : Int32} {gP : Int32} {gT : Nat → Int32} {gR : Nat → Int32} {mm : Int32} {ms : Int32} {mg : Int32} {mL : Nat → Int32} {mQ : Nat → Int32} {mZ : Nat → Int32} {dm : Int32} {ds : Int32} {dg : Int32} {dL : Nat → Int32} {dQ : Nat → Int32} {dZ : Nat → Int32} {om : Int32} {os : Int32} {og : Int32} {oL : Nat → Int32} {oQ : Nat → Int32} {oZ : Nat → Int32} {gB : Int32} {gO : Int32} {xk : Int32} {gE : Int32} {gV : Nat → Int32} {gU : Nat → Int32} {gN : Nat → Int32} {G : Nat} {gW : Nat → Int32} {gA : Nat → Int32} {gI : Int32} {gS : Int32} {gM : Int32} {K : Nat → Int32} {F : Nat → Int32} {S : Nat → Int32} {N : Nat → Int32} {gH : Int} {gJ : Int} {ge : Int32} {gk : Int32} {gf : Int32} {gs : Int32} {gg : Int32} {gr : Int32} {RN : Nat → Int32} {gb : Int32} {rV : Nat → Int32} {rN : Nat → Int32} (hx : p.tables.exec = Jvm.exec) (hb : c.code = cL_law) (hml : c.maxLocals = 4) (hown : s.vm.findClass RL = some m.cls) (hts : ∀ w ∈ wsL_law, w.before #[Value.ref b] s = true) (hE : EV D cI cL cC s) (hbl : b < h0) (hT0 : cT h0 tm tx) (hG : tG D (hF cI cL cC gC gP gT gR mm ms mg mL mQ mZ dm ds dg dL dQ dZ om os og oL oQ oZ gB gO xk gE gV gU gN G gW gA) tx H) (hM : tG D (mF cI cL cC gC gE gW gA gT gI gS gM K F S N gH gJ ge gk gf gs gg gr RN gb rV rN) tm H) (kt2 : tm (h0 + 92) = 40) (hm00 : ∀ q : Nat, q < h0 → tm q = 0) (uqm : ∀ b c : Nat, tm b = tm c → tm b ≠ 0 → b = c) (hC0 : 0 ≤ gC.toInt) (hC4 : gC.toInt ≤ 400) (hP0 : 0 ≤ gP.toInt) (hP4 : gP.toInt ≤ 400) (hTg : gBd 400 0 255 gT) (mg0 : 0 ≤ mg.toInt) (mg4 : mg.toInt ≤ 4) (dg0 : 0 ≤ dg.toInt) (dg4 : dg.toInt ≤ 4) (og0 : 0 ≤ og.toInt) (og4 : og.toInt ≤ 4) (xk0 : 0 ≤ xk.toInt) (xk3 : xk.toInt ≤ 3) (hI0 : 0 ≤ gI.toInt) (hI4 : gI.toInt ≤ 40) (hH0 : 0 ≤ gH) (hH9 : gH ≤ 96) (hm0 : 0 ≤ gM.toInt) (hm3 : gM.toInt ≤ 3) (hO0 : okM K F S N 0 gI.toInt) (hW : swM gS K F S N gI.toInt) (hoR : othR gb gS gI K F) (hrB : relB gB gb mm gI mL mQ K F) (hoC : othC gB gO mm om mL mQ oL oQ) (heV : eqV gV rV gN rN) (hGb : (G : Int) ≤ 3072 * yi.toInt) (hy0 : 0 ≤ yi.toInt) (hy8 : yi.toInt + 8 ≤ (L : Int)) (hL : L ≤ 4096) (hS : cF h0 s.heap H locs) (hX : va_X b L xs s H) (hl : lv_has ls 4 [(3, .int yi), (2, .ref (h0 + 92)), (1, .ref h0), (0, .ref b)]) (hcl : cells ≤ 600000) (hsl : slots ≤ 7302250) (kx : ∀ (H1 : Heap) (locs1 : List Loc) (tx' : Nat → Nat) (gC' : Int32) (gP' : Int32) (gT' : Nat → Int32) (gR' : Nat → Int32) (mm' : Int32) (ms' : Int32) (mg' : Int32) (mL' : Nat → Int32) (mQ' : Nat → Int32) (mZ' : Nat → Int32) (dm' : Int32) (ds' : Int32) (dg' : Int32) (dL' : Nat → Int32) (dQ' : Nat → Int32) (dZ' : Nat → Int32) (om' : Int32) (os' : Int32) (og' : Int32) (oL' : Nat → Int32) (oQ' : Nat → Int32) (oZ' : Nat → Int32) (gB' : Int32) (gO' : Int32) (xk' : Int32) (gE' : Int32) (gV' : Nat → Int32) (gU' : Nat → Int32) (gN' : Nat → Int32) (G' : Nat) (gW' : Nat → Int32) (gA' : Nat → Int32) (gI' : Int32) (gS' : Int32) (gM' : Int32) (K' : Nat → Int32) (F' : Nat → Int32) (S' : Nat → Int32) (N' : Nat → Int32) (gH' : Int) (gJ' : Int) (ge' : Int32) (gk' : Int32) (gf' : Int32) (gs' : Int32) (gg' : Int32) (gr' : Int32) (RN' : Nat → Int32) (gb' : Int32) (rV' : Nat → Int32) (rN' : Nat → Int32), cT h0 tm tx' → tG D (hF cI cL cC gC' gP' gT' gR' mm' ms' mg' mL' mQ' mZ' dm' ds' dg' dL' dQ' dZ' om' os' og' oL' oQ' oZ' gB' gO' xk' gE' gV' gU' gN' G' gW' gA') tx' H1 → tG D (mF cI cL cC gC' gE' gW' gA' gT' gI' gS' gM' K' F' S' N' gH' gJ' ge' gk' gf' gs' gg' gr' RN' gb' rV' rN') tm H1 → (0 ≤ gC'.toInt) → (gC'.toInt ≤ 400) → (0 ≤ gP'.toInt) → (gP'.toInt ≤ 400) → (gBd 400 0 255 gT') → (0 ≤ mg'.toInt) → (mg'.toInt ≤ 4) → (0 ≤ dg'.toInt) → (dg'.toInt ≤ 4) → (0 ≤ og'.toInt) → (og'.toInt ≤ 4) → (0 ≤ xk'.toInt) → (xk'.toInt ≤ 3) → (0 ≤ gI'.toInt) → (gI'.toInt ≤ 40) → (0 ≤ gH') → (gH' ≤ 96) → (0 ≤ gM'.toInt) → (gM'.toInt ≤ 3) → (okM K' F' S' N' 0 gI'.toInt) → (swM gS' K' F' S' N' gI'.toInt) → (othR gb' gS' gI' K' F') → (relB gB' gb' mm' gI' mL' mQ' K' F') → (othC gB' gO' mm' om' mL' mQ' oL' oQ') → (eqV gV' rV' gN' rN') → (G' : Int) ≤ 3072 * yi.toInt + 24576 → cF h0 s.heap H1 locs1 → va_X b L xs s H1 → W p l e room_1 s m #[Value.ref b] below meth c H1 locs1 cells slots Q (F0 m 1409 ls [])) : W p l e room_1 s m #[Value.ref b] below meth c H locs cells slots Q (F0 m 1098 ls []) := by
  refine lv_aload_n hx hb dL_law_1098 rfl (lv_at hl 2 rfl) ?_
  refine lw_argC hx hb hX hl hy0 hy8 hL 1 (by decide) (by decide) dL_law_1099 dL_law_1100 dL_law_1101 dL_law_1102 dL_law_1103 ?_
  refine lv_pc (pc2 := 1104) rfl ?_
  refine lw_argC hx hb hX hl hy0 hy8 hL 2 (by decide) (by decide) dL_law_1104 dL_law_1105 dL_law_1106 dL_law_1107 dL_law_1108 ?_
  refine lv_pc (pc2 := 1109) rfl ?_
  refine lw_argC hx hb hX hl hy0 hy8 hL 3 (by decide) (by decide) dL_law_1109 dL_law_1110 dL_law_1111 dL_law_1112 dL_law_1113 ?_
  refine lv_pc (pc2 := 1114) rfl ?_
  refine lw_argC hx hb hX hl hy0 hy8 hL 4 (by decide) (by decide) dL_law_1114 dL_law_1115 dL_law_1116 dL_law_1117 dL_law_1118 ?_
  refine lv_pc (pc2 := 1119) rfl ?_
  refine lw_argC hx hb hX hl hy0 hy8 hL 5 (by decide) (by decide) dL_law_1119 dL_law_1120 dL_law_1121 dL_law_1122 dL_law_1123 ?_
  refine lv_pc (pc2 := 1124) rfl ?_
  refine lv_i2l (v := (xs (yi.toInt + 5).toNat).toInt64) hx hb dL_law_1124 rfl ?_
  refine lv_pc (pc2 := 1125) rfl ?_
  refine lv_bipush (v := 32) hx hb dL_law_1125 (by decide) ?_
  refine lv_lshl hx hb dL_law_1127 rfl ?_
  refine lv_topl (fun z_1 e_2 => ?_)
  refine lw_argB hx hb hX hl hy0 hy8 hL 6 (by decide) (by decide) dL_law_1128 dL_law_1129 dL_law_1130 dL_law_1132 dL_law_1133 ?_
  refine lv_pc (pc2 := 1134) rfl ?_
  refine lv_i2l (v := (xs (yi.toInt + 6).toNat).toInt64) hx hb dL_law_1134 rfl ?_
  refine lv_ldc2 hx hb hown (hts (.constantLong RL 13 (4294967295)) (List.mem_of_getElem? (i := 6) rfl)) dL_law_1135 ?_
  refine lv_land hx hb dL_law_1138 ?_
  refine lv_topl (fun z_3 e_4 => ?_)
  refine lv_lor hx hb dL_law_1139 ?_
  refine lv_topl (fun z_5 e_6 => ?_)
  refine lw_argB hx hb hX hl hy0 hy8 hL 7 (by decide) (by decide) dL_law_1140 dL_law_1141 dL_law_1142 dL_law_1144 dL_law_1145 ?_
  refine lv_pc (pc2 := 1146) rfl ?_
  refine lv_pc (pc2 := 1146) rfl ?_
  obtain ⟨_, at_7⟩ := rcvH hG hT0.1
  have hV_11 : tG D (gF cI cL cC gC gE G gW gA) (fun q => cwA (tx q)) H := tG.vw hG (cwA_vw ⟨by omega, by omega⟩ ⟨by omega, by omega, by omega, by omega⟩ ⟨by omega, by omega⟩ ⟨by omega, by omega⟩ ⟨by omega, by omega⟩) rfl
  refine lw_calll (W.runV (As := [.int (xs (yi.toInt + 1).toNat), .int (xs (yi.toInt + 2).toNat), .int (xs (yi.toInt + 3).toNat), .int (xs (yi.toInt + 4).toNat), .long z_5, .int (xs (yi.toInt + 7).toNat)]) (rest := []) ⟨hx, hb, hml, hown, hts⟩ (s_X9_best l D (fun q => cwA (tx q)) cI cL cC gC gE G gW gA h0 (xs (yi.toInt + 1).toNat) (xs (yi.toInt + 2).toNat) (xs (yi.toInt + 3).toNat) (xs (yi.toInt + 4).toNat) z_5 (xs (yi.toInt + 7).toNat) (by omega) (by show cwA (tx h0) = 1; rw [hT0.1]; rfl)) (cwV 6 hts gu_L_X9_best rfl rfl rfl (by decide +kernel) ⟨Nat.le_of_ble_eq_true rfl, Nat.le_of_ble_eq_true rfl⟩) (tP_V hV_11 hE at_7 rfl) rfl rfl hl.1 rfl (lv_room (Nat.le_of_ble_eq_true rfl)) dL_law_1146 ⟨hcl, hsl⟩) hS rfl (fun q h => by show cwA (tx q) = 0; rw [hT0.2.1 q h]; rfl) (fun r_8 H locs hp_9 hV_12 hS o_10 => ?_)
  replace hX := hX.kept (o_10 b (by show wrS (cwA (tx b)) = false; rw [hT0.2.1 b hbl]; rfl))
  replace hM := tG.keptW hM o_10 (fun q h => by show wrS (cwA (tx q)) = false; rw [hT0.2.2.1 q h]; rfl)
  replace hG : tG D (hF cI cL cC gC gP gT gR mm ms mg mL mQ mZ dm ds dg dL dQ dZ om os og oL oQ oZ gB gO xk gE gV gU gN (G + 9324) gW gA) tx H := tG.unvw hG hV_12 o_10 rfl (cwA_wrS_b (G := G)) (cwA_wrS_o (by omega))
  clear hV_11 hV_12
  refine lv_pop2_2 hx hb dL_law_1149 rfl ?_
  refine lv_aload_n hx hb dL_law_1150 rfl (lv_at hl 1 rfl) ?_
  refine lw_argC hx hb hX hl hy0 hy8 hL 1 (by decide) (by decide) dL_law_1151 dL_law_1152 dL_law_1153 dL_law_1154 dL_law_1155 ?_
  refine lv_pc (pc2 := 1156) rfl ?_
  refine lw_argC hx hb hX hl hy0 hy8 hL 2 (by decide) (by decide) dL_law_1156 dL_law_1157 dL_law_1158 dL_law_1159 dL_law_1160 ?_
  refine lv_pc (pc2 := 1161) rfl ?_
  refine lw_argC hx hb hX hl hy0 hy8 hL 3 (by decide) (by decide) dL_law_1161 dL_law_1162 dL_law_1163 dL_law_1164 dL_law_1165 ?_
  refine lv_pc (pc2 := 1166) rfl ?_
  refine lw_argC hx hb hX hl hy0 hy8 hL 4 (by decide) (by decide) dL_law_1166 dL_law_1167 dL_law_1168 dL_law_1169 dL_law_1170 ?_
  refine lv_pc (pc2 := 1171) rfl ?_
  refine lw_argC hx hb hX hl hy0 hy8 hL 5 (by decide) (by decide) dL_law_1171 dL_law_1172 dL_law_1173 dL_law_1174 dL_law_1175 ?_
  refine lv_pc (pc2 := 1176) rfl ?_
  refine lv_pc (pc2 := 1176) rfl ?_
  refine lv_i2l (v := (xs (yi.toInt + 5).toNat).toInt64) hx hb dL_law_1176 rfl ?_
  refine lv_bipush (v := 32) hx hb dL_law_1177 (by decide) ?_
  refine lv_lshl hx hb dL_law_1179 rfl ?_
  refine lv_topl (fun z_13 e_14 => ?_)
  refine lw_argB hx hb hX hl hy0 hy8 hL 6 (by decide) (by decide) dL_law_1180 dL_law_1181 dL_law_1182 dL_law_1184 dL_law_1185 ?_
  refine lv_pc (pc2 := 1186) rfl ?_
  refine lv_i2l (v := (xs (yi.toInt + 6).toNat).toInt64) hx hb dL_law_1186 rfl ?_
  refine lv_ldc2 hx hb hown (hts (.constantLong RL 13 (4294967295)) (List.mem_of_getElem? (i := 6) rfl)) dL_law_1187 ?_
  refine lv_land hx hb dL_law_1190 ?_
  refine lv_topl (fun z_15 e_16 => ?_)
  refine lv_lor hx hb dL_law_1191 ?_
  refine lv_topl (fun z_17 e_18 => ?_)
  refine lv_pc (pc2 := 1192) rfl ?_
  refine lw_argB hx hb hX hl hy0 hy8 hL 7 (by decide) (by decide) dL_law_1192 dL_law_1193 dL_law_1194 dL_law_1196 dL_law_1197 ?_
  refine lv_pc (pc2 := 1198) rfl ?_
  obtain ⟨_, at_19⟩ := rcv40 hM kt2
  refine lx_calll (W.runV (As := [.int (xs (yi.toInt + 1).toNat), .int (xs (yi.toInt + 2).toNat), .int (xs (yi.toInt + 3).toNat), .int (xs (yi.toInt + 4).toNat), .long z_17, .int (xs (yi.toInt + 7).toNat)]) (rest := []) ⟨hx, hb, hml, hown, hts⟩ (m_X10_best l D tm cI cL cC gC gE gW gA gT gI gS gM K F S N gH gJ ge gk gf gs gg gr RN gb rV rN (h0 + 92) (xs (yi.toInt + 1).toNat) (xs (yi.toInt + 2).toNat) (xs (yi.toInt + 3).toNat) (xs (yi.toInt + 4).toNat) z_17 (xs (yi.toInt + 7).toNat) uqm hC0 hC4 hI0 hI4 hH0 hH9 hm0 hm3 hO0 hW hoR kt2) (cwV 6 hts gu_L_X10_best rfl rfl rfl (by decide +kernel) ⟨Nat.le_of_ble_eq_true rfl, Nat.le_of_ble_eq_true rfl⟩) (tP_V hM hE at_19 rfl) rfl rfl hl.1 rfl (lv_room (Nat.le_of_ble_eq_true rfl)) dL_law_1198 ⟨hcl, hsl⟩) hS rfl hm00 (fun r_20 zz_25 H locs hp_21 hM hS o_22 => ?_)
  obtain ⟨gH_23, gJ_24⟩ := zz_25
  replace hX := hX.kept (o_22 b (by rw [hm00 b hbl]; rfl))
  replace hG := tG.keptW hG o_22 (fun q h => by rw [hT0.2.2.2.1 q h]; rfl)
  replace hM : tG D (mF cI cL cC gC gE gW gA gT gI gS gM K F S N gH_23 gJ_24 ge gk gf gs gg gr RN gb rV rN) tm H := hM
  have hp_21 : 0 ≤ gH_23 ∧ gH_23 ≤ 96 := hp_21
  obtain ⟨p_26, p_27⟩ := hp_21
  refine lv_pop2_2 hx hb dL_law_1201 rfl ?_
  refine lv_goto (tgt := 1409) hx hb dL_law_1202 (by decide) ?_
  exact kx H locs tx _ _ _ _ _ _ _ _ _ _ _ _ _ _ _ _ _ _ _ _ _ _ _ _ _ _ _ _ _ _ _ _ _ _ _ _ _ _ _ _ _ _ _ _ _ _ _ _ _ _ _ hT0 hG hM hC0 hC4 hP0 hP4 hTg mg0 mg4 dg0 dg4 og0 og4 xk0 xk3 hI0 hI4 p_26 p_27 hm0 hm3 hO0 hW hoR (relB.step hrB smC.rf smR.rf) hoC heV (by omega) hS hX
