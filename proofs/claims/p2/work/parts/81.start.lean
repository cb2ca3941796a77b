-- ===== end of PART A; then your names; then what follows =====
/-! THE CLAIM OUT OF ONE WALK OF THE LAW'S BODY. Your part is whole_start (and what it stands on); all else here is the same for every law, but numbers. -/
def R_law : String := "RiverModelLaw"
def lw_P (b : Addr) (xs : List Int32) (args : Array Value) (s : State) : Prop := args = #[.ref b] ∧ s.IntsAt b xs ∧ xs.length ≤ 4096 ∧ (Jvm.Cond.and given_1 narrow_1).before args s = true
def lw_Q (_ : Array Value) (s : State) (o : Outcome) (t : State) : Prop := o = .returned (some (.int 1)) ∧ Framed s o t [] 600000 7302250
def lw_Z (below : List Frame) (a : Array Value) (s : State) : State → Prop := fun t => ∃ o, t.status = .running ∧ Ended t below o ∧ lw_Q a s o t
/-- the law's own end, with 1 on the stack, nothing written that was there before, its room as the claim has it -/
theorem lw_ret {p : Program} {l : Launch} {e : Env} {s : State} {m : MethodId} {below : List Frame} {meth : Method} {c : Code} {b : Nat} (hx : p.tables.exec = Jvm.exec) (hb : c.code = code) (hr : meth.sig.returnType = ret) (hlocks : meth.locks = false) {pc : Nat} {H : Heap} {ls : Array Slot} (hdg : decode code pc = .ok (.ireturn, 1)) : W p l e room_1 s m #[Value.ref b] below meth c H [] 600000 7302250 (lw_Z below #[Value.ref b] s) (F0 m pc ls [.int 1]) := by
  intro T hT X
  obtain ⟨fs, hret, hrun, hended, hW, hframe⟩ := X.leave (v := some (.int 1)) (hlocks := hlocks) (fun h => by rw [hr] at h; cases h)
  have hmeth' : T.vm.method? m = some meth := X.method'
  refine ⟨T.setFrames fs, ?_, .returned (some (.int 1)), hrun, hended, rfl, ⟨_, rfl⟩, hW, hframe⟩
  jvm_step X.here [X.here.top, hx, hb, hdg, hmeth', hr, ret, narrow_b1]
  (try refine ⟨rfl, ?_⟩); (try refine ⟨rfl, ?_⟩)
  first | (intro acts; rw [hret _ acts rfl rfl rfl]) | rw [hret _ _ rfl rfl rfl]
  exact Steps.refl _
/-- what holds at the law's entry: the machine, the code, the tables' words (any of lw_tbl by 'hts w (by decide +kernel)'), the script of L ints xs at the cell b, what the Statement gives of the start (any of its parts by flat_of_before) -/
def lw_At (p : Program) (s : State) (m : MethodId) (meth : Method) (c : Code) (b L : Nat) (xs : Nat → Int32) : Prop :=
  p.tables.exec = Jvm.exec ∧ c.code = code ∧ meth.sig.returnType = ret ∧ c.maxLocals = 4 ∧ s.vm.findClass R_law = some m.cls ∧ (∀ w ∈ lw_tbl, w.before #[Value.ref b] s = true) ∧ va_X b L xs s s.heap ∧ b < s.heap.size ∧ meth.locks = false ∧ (Jvm.Cond.and given_1 narrow_1).before #[Value.ref b] s = true
set_option maxRecDepth 20000 in
theorem inlX0 : ∀ w ∈ wsX00, w ∈ wsL_law := fun _ h => List.mem_append_left _ (List.mem_append_left _ (List.mem_append_left _ (List.mem_append_left _ (List.mem_append_left _ (List.mem_append_right _ h)))))
set_option maxRecDepth 20000 in
theorem inlX1 : ∀ w ∈ wsX10, w ∈ wsL_law := fun _ h => List.mem_append_left _ (List.mem_append_left _ (List.mem_append_left _ (List.mem_append_left _ (List.mem_append_right _ h))))
set_option maxRecDepth 20000 in
theorem inlX3 : ∀ w ∈ wsX30, w ∈ wsL_law := fun _ h => List.mem_append_left _ (List.mem_append_left _ (List.mem_append_left _ (List.mem_append_right _ h)))
set_option maxRecDepth 20000 in
theorem inlX4 : ∀ w ∈ wsX40, w ∈ wsL_law := fun _ h => List.mem_append_left _ (List.mem_append_left _ (List.mem_append_left _ (List.mem_append_left _ (List.mem_append_left _ (List.mem_append_left _ (List.mem_append_left _ (List.mem_append_right _ h)))))))
set_option maxRecDepth 20000 in
theorem inlX5 : ∀ w ∈ wsX50, w ∈ wsL_law := fun _ h => List.mem_append_left _ (List.mem_append_right _ h)
set_option maxRecDepth 20000 in
theorem inlX6 : ∀ w ∈ wsX60, w ∈ wsL_law := fun _ h => List.mem_append_left _ (List.mem_append_left _ (List.mem_append_left _ (List.mem_append_left _ (List.mem_append_left _ (List.mem_append_left _ (List.mem_append_right _ h))))))
set_option maxRecDepth 20000 in
theorem inlX7 : ∀ w ∈ wsX70, w ∈ wsL_law := fun _ h => List.mem_append_left _ (List.mem_append_left _ (List.mem_append_left _ (List.mem_append_left _ (List.mem_append_left _ (List.mem_append_left _ (List.mem_append_left _ (List.mem_append_left _ (List.mem_append_right _ h))))))))
set_option maxRecDepth 20000 in
theorem inlX8 : ∀ w ∈ wsX80, w ∈ wsL_law := fun _ h => List.mem_append_left _ (List.mem_append_left _ (List.mem_append_right _ h))
set_option maxRecDepth 20000 in
theorem inlX9 : ∀ w ∈ wsX90, w ∈ wsL_law := fun _ h => List.mem_append_left _ (List.mem_append_left _ (List.mem_append_left _ (List.mem_append_left _ (List.mem_append_left _ (List.mem_append_left _ (List.mem_append_left _ (List.mem_append_left _ (List.mem_append_left _ (List.mem_append_left _ (List.mem_append_right _ h))))))))))
set_option maxRecDepth 20000 in
theorem inlX10 : ∀ w ∈ wsX100, w ∈ wsL_law := fun _ h => List.mem_append_left _ (List.mem_append_left _ (List.mem_append_left _ (List.mem_append_left _ (List.mem_append_left _ (List.mem_append_left _ (List.mem_append_left _ (List.mem_append_left _ (List.mem_append_left _ (List.mem_append_right _ h)))))))))
set_option maxRecDepth 20000 in
theorem ggL_law_X9_init : GoodIn wsL_law wsX9_init := goodIn_r _ [9, 10, 11, 12, 13, 14, 15, 16, 17, 18, 19, 20, 21, 22, 23, 24, 25, 26, 27, 28, 29, 30, 31, 32, 33, 34, 35, 36, 37, 38, 39, 40, 41, 42, 43, 44, 45, 46, 47, 48, 49, 50, 51, 52, 53, 54, 55, 56, 57, 58, 59, 60, 61, 62, 63, 64, 65, 66, 67, 68, 69, 70, 71, 72, 73, 74, 75, 76, 77, 78, 79, 80, 81, 82, 83, 84, 85, 86, 87, 88, 89, 90, 91, 92, 93, 94, 95, 96, 97, 98, 99, 100, 101, 102, 103, 104, 105, 106, 107, 108, 109, 110, 111, 112, 113, 114, 115, 116, 117, 118, 119, 120, 121, 122, 123, 124, 125, 126, 127, 128, 129, 130, 131, 1118, 1119, 1120, 1121, 1064, 1065, 1066, 1067, 1068, 1069, 1070, 1071, 1072, 1073, 1074, 1075, 1076, 1077, 1078, 1079, 1080, 1081, 1122, 1123, 1124, 1125, 1126, 1127, 1128, 1129, 1130, 1131, 1132, 1133, 1134, 1135, 1136, 1137, 1138, 1139, 1140, 1141, 1142, 1143, 1144, 1145, 1146, 1147, 1148, 1149, 1150, 1151, 1152, 1153, 1154, 1155, 1156, 1157, 1158, 1159] (by decide +kernel) (by decide +kernel)
set_option maxRecDepth 20000 in
theorem gL_law_X9_init : GoodIn wsL_law (wsX9_init) := ggL_law_X9_init
set_option maxRecDepth 20000 in
theorem ggL_law_X10_init : GoodIn wsL_law wsX10_init := goodIn_r _ [134, 135, 11, 12, 30, 136, 137, 138, 139, 140, 141, 85, 142, 143, 144, 145, 146, 147, 148, 149, 150, 151, 152, 153, 154, 155, 156, 157, 158, 159, 160, 161, 5, 162, 1082, 1083, 1084, 1085, 1086, 1087, 1088, 1089, 1090, 1091, 1092, 1093, 1094, 1095, 1096, 1097, 1098, 1099, 1100, 1101, 1102, 1103, 1104, 1105, 1106, 1107, 1108, 1109, 1110, 1111, 1112, 1113, 1114, 1115, 1116, 1117] (by decide +kernel) (by decide +kernel)
set_option maxRecDepth 20000 in
theorem gL_law_X10_init : GoodIn wsL_law (wsX10_init) := ggL_law_X10_init
theorem dL_law_0 : decode cL_law 0 = .ok (.new 7, 3) := by decide +kernel
theorem dL_law_3 : decode cL_law 3 = .ok (.dup, 1) := by decide +kernel
theorem dL_law_4 : decode cL_law 4 = .ok (.invokespecial 9, 3) := by decide +kernel
theorem dL_law_7 : decode cL_law 7 = .ok (.astore_n 1, 1) := by decide +kernel
theorem dL_law_8 : decode cL_law 8 = .ok (.new 10, 3) := by decide +kernel
theorem dL_law_11 : decode cL_law 11 = .ok (.dup, 1) := by decide +kernel
theorem dL_law_12 : decode cL_law 12 = .ok (.invokespecial 12, 3) := by decide +kernel
theorem dL_law_15 : decode cL_law 15 = .ok (.astore_n 2, 1) := by decide +kernel
theorem dL_law_16 : decode cL_law 16 = .ok (.iconst 0, 1) := by decide +kernel
theorem dL_law_17 : decode cL_law 17 = .ok (.istore_n 3, 1) := by decide +kernel
theorem dL_law_18 : decode cL_law 18 = .ok (.iload_n 3, 1) := by decide +kernel
theorem dL_law_19 : decode cL_law 19 = .ok (.aload_n 0, 1) := by decide +kernel
theorem dL_law_20 : decode cL_law 20 = .ok (.arraylength, 1) := by decide +kernel
theorem dL_law_21 : decode cL_law 21 = .ok (.bipush 8, 2) := by decide +kernel
theorem dL_law_23 : decode cL_law 23 = .ok (.isub, 1) := by decide +kernel
theorem dL_law_24 : decode cL_law 24 = .ok (.if_icmp .gt 1391, 3) := by decide +kernel
theorem dL_law_27 : decode cL_law 27 = .ok (.aload_n 0, 1) := by decide +kernel
theorem dL_law_28 : decode cL_law 28 = .ok (.iload_n 3, 1) := by decide +kernel
theorem dL_law_29 : decode cL_law 29 = .ok (.iaload, 1) := by decide +kernel
theorem dL_law_30 : decode cL_law 30 = .ok (.bipush 63, 2) := by decide +kernel
theorem dL_law_32 : decode cL_law 32 = .ok (.iand, 1) := by decide +kernel
theorem dL_law_33 : decode cL_law 33 = .ok (.tableswitch 1376 0 34 #[155, 218, 231, 244, 257, 290, 343, 356, 379, 412, 435, 468, 491, 534, 557, 600, 623, 698, 711, 744, 767, 800, 843, 916, 999, 1022, 1065, 1172, 1195, 1238, 1251, 1284, 1327, 1340, 1353], 155) := by decide +kernel
theorem dL_law_1409 : decode cL_law 1409 = .ok (.iinc 3 8, 3) := by decide +kernel
theorem dL_law_1412 : decode cL_law 1412 = .ok (.goto (-1394), 3) := by decide +kernel
theorem dL_law_1415 : decode cL_law 1415 = .ok (.iconst 1, 1) := by decide +kernel
theorem dL_law_1416 : decode cL_law 1416 = .ok (.ireturn, 1) := by decide +kernel

abbrev KLx : List Nat := [1, 2, 10, 11, 3, 12, 13, 14, 3, 12, 13, 14, 3, 12, 13, 14, 4, 15, 16, 4, 15, 16, 35, 5, 17, 18, 19, 20, 5, 17, 18, 19, 20, 5, 17, 18, 19, 20, 36, 6, 21, 22, 23, 7, 24, 25, 26, 27, 28, 8, 29, 30, 31, 9, 32, 33, 34, 5, 17, 18, 19, 20, 5, 17, 18, 19, 20, 5, 17, 18, 19, 20, 5, 17, 18, 19, 20, 5, 17, 18, 19, 20, 5, 17, 18, 19, 20, 5, 17, 18, 19, 20]
abbrev KLm : List Nat := [40, 41, 42, 43, 44, 45, 46, 47, 48, 49, 50, 51, 52, 53, 54, 55, 56, 57, 58, 59, 60, 61, 62, 63]
theorem KLx_2 : ∀ i, i < KLx.length → KLx.getD i 0 = 2 → i = 1 := by decide +kernel
theorem KLx_6 : ∀ i, i < KLx.length → KLx.getD i 0 = 6 → i = 39 := by decide +kernel
theorem KLx_29 : ∀ i, i < KLx.length → KLx.getD i 0 = 29 → i = 50 := by decide +kernel
theorem KLx_31 : ∀ i, i < KLx.length → KLx.getD i 0 = 31 → i = 52 := by decide +kernel
theorem KLm_inj : ∀ i, i < KLm.length → ∀ j, j < KLm.length → KLm.getD i 0 = KLm.getD j 0 → i = j := by decide +kernel
set_option maxRecDepth 20000 in
theorem tvN_in : ∀ w ∈ tvN, w ∈ lw_tbl := by decide +kernel
set_option maxRecDepth 20000 in
theorem AO_in : Cond.arrayOver (.object RX0) ∈ lw_tbl := by decide +kernel
set_option maxHeartbeats 8000000 in
set_option maxRecDepth 100000 in
/-- the law, from its entry, on a script of at most 4096 ints -/
theorem whole_start {p : Program} {e : Env} {s : State} {m : MethodId} {below : List Frame} {meth : Method} {c : Code} (l : Launch) {b L : Nat} {xs : Nat → Int32} (hL : L ≤ 4096) (C0 : lw_At p s m meth c b L xs) : W p l e room_1 s m #[Value.ref b] below meth c s.heap [] 0 0 (lw_Z below #[Value.ref b] s) (entryFrame m ([Value.ref b] : List Value).toArray 4) := by
  obtain ⟨hx, hb, hr, hml, hown, hts0, hX, hbl, hlocks, hgv⟩ := id C0
  have hts : ∀ w ∈ wsL_law, w.before #[Value.ref b] s = true := fun w h => hts0 w (wsL_law_in w h)
  obtain ⟨c0, i0, K0⟩ := u_known (C := RX0) (T := TX0) (N := 8) (n := 8) hts inlX0 (hts (.instantiable RX0 8) (List.mem_of_getElem? (i := 33) rfl))
  obtain ⟨c1, i1, K1⟩ := u_known (C := RX1) (T := TX1) (N := 4) (n := 4) hts inlX1 (hts (.instantiable RX1 4) (List.mem_of_getElem? (i := 41) rfl))
  obtain ⟨c2, i2, K2⟩ := u_known (C := RX3) (T := TX3) (N := 5) (n := 5) hts inlX3 (hts (.instantiable RX3 5) (List.mem_of_getElem? (i := 45) rfl))
  obtain ⟨c3, i3, K3⟩ := u_known (C := RX4) (T := TX4) (N := 6) (n := 6) hts inlX4 (hts (.instantiable RX4 6) (List.mem_of_getElem? (i := 18) rfl))
  obtain ⟨c4, i4, K4⟩ := u_known (C := RX5) (T := TX5) (N := 10) (n := 10) hts inlX5 (hts (.instantiable RX5 10) (List.mem_of_getElem? (i := 53) rfl))
  obtain ⟨c5, i5, K5⟩ := u_known (C := RX6) (T := TX6) (N := 2) (n := 2) hts inlX6 (hts (.instantiable RX6 2) (List.mem_of_getElem? (i := 26) rfl))
  obtain ⟨c6, i6, K6⟩ := u_known (C := RX7) (T := TX7) (N := 4) (n := 4) hts inlX7 (hts (.instantiable RX7 4) (List.mem_of_getElem? (i := 14) rfl))
  obtain ⟨c7, i7, K7⟩ := u_known (C := RX8) (T := TX8) (N := 3) (n := 3) hts inlX8 (hts (.instantiable RX8 3) (List.mem_of_getElem? (i := 49) rfl))
  obtain ⟨c8, i8, K8⟩ := u_known (C := RX9) (T := TX9) (N := 18) (n := 18) hts inlX9 (hts (.instantiable RX9 18) (List.mem_of_getElem? (i := 1) rfl))
  obtain ⟨c9, i9, K9⟩ := u_known (C := RX10) (T := TX10) (N := 36) (n := 36) hts inlX10 (hts (.instantiable RX10 36) (List.mem_of_getElem? (i := 4) rfl))
  obtain ⟨D, hKc⟩ : ∃ D : va_G, ∀ (k : Nat) (q : vw_C), vwCl[k]? = some q → u_Kn s q.1 q.2.1 q.2.2 (D.1 k) (D.2 k) := by
    refine ⟨(fun k => match k with | 0 => c0 | 1 => c1 | 2 => c2 | 3 => c3 | 4 => c4 | 5 => c5 | 6 => c6 | 7 => c7 | 8 => c8 | _ => c9, fun k => match k with | 0 => i0 | 1 => i1 | 2 => i2 | 3 => i3 | 4 => i4 | 5 => i5 | 6 => i6 | 7 => i7 | 8 => i8 | _ => i9), ?_⟩
    intro k q hq
    match k, hq with
    | 0, hq => cases hq; exact K0
    | 1, hq => cases hq; exact K1
    | 2, hq => cases hq; exact K2
    | 3, hq => cases hq; exact K3
    | 4, hq => cases hq; exact K4
    | 5, hq => cases hq; exact K5
    | 6, hq => cases hq; exact K6
    | 7, hq => cases hq; exact K7
    | 8, hq => cases hq; exact K8
    | 9, hq => cases hq; exact K9
    | k + 10, hq => simp [vwCl] at hq
  obtain ⟨cI, kI, compI, f1, f2, f3⟩ := Cond.arrayClass_spec (hts (.arrayClass .int) (List.mem_of_getElem? (i := 30) rfl))
  obtain ⟨cL, kL, compL, g1, g2, g3⟩ := Cond.arrayClass_spec (hts (.arrayClass .long) (List.mem_of_getElem? (i := 85) rfl))
  have hAO := hts0 _ AO_in
  obtain ⟨compC, cC, kC, a1, a2, a3, a4, a5⟩ := Cond.arrayOver_spec hAO
  have hK : va_K D vwCl (tvK cI cL cC) s := by
    refine ⟨hKc, fun k q h => ?_⟩
    match k, h with
    | 0, h => cases h; exact ⟨fun n z => ⟨fun k h => (by cases h), kI, f2, compI, f3⟩, f1⟩
    | 1, h => cases h; exact ⟨fun n z => ⟨fun k h => (by cases h), kL, g2, compL, g3⟩, g1⟩
    | 2, h => cases h; exact ⟨fun n z => ⟨fun k h => (by cases h), kC, a3, compC, a4⟩, kC, compC, a3, a4, a1, a5⟩
    | k + 3, h => simp [tvK] at h
  have hE : EV D cI cL cC s := by
    refine ⟨hK, fun w hw => ?_, va_AO.of hAO⟩
    have h1 := List.all_eq_true.mp tvN_nest w hw
    have h2 := hts0 w (tvN_in w hw)
    cases w <;> first | (exact va_Nw.of rfl h2) | (simp [tvIsNest] at h1)
  have hl := lv_entry ([.ref b]) (n := 4) (Nat.le_of_ble_eq_true rfl)
  rw [lg_entry_eq]
  generalize (lg_sl ([.ref b]) ++ List.replicate (4 - (lg_sl ([.ref b])).length) Slot.unset).toArray = ls at hl ⊢
  have hl : lv_has ls 4 [(0, .ref b)] := hl
  obtain ⟨h0, hz⟩ : ∃ h0 : Nat, s.heap.size = h0 := ⟨_, rfl⟩
  have hbl : b < h0 := by rw [← hz]; exact hbl
  have hS : cF h0 s.heap s.heap [] := cF.rf
  refine nw_new (ci := 8) (fs := [.null, .null, .null, .null, .int 0, .int 0, .null, .null, .null, .null, .null, .null, .null, .int 0, .null, .null, .null, .null]) (C := RX9) (T := TX9) (N := 18) (z := h0) hx hb hts inlX9 tyX9 tyX9_ok hown (hts (.classLink RL 7 RX9) (List.mem_of_getElem? (i := 0) rfl)) (hts (.instantiable RX9 18) (List.mem_of_getElem? (i := 1) rfl)) (hts (.initialized RX9) (List.mem_of_getElem? (i := 2) rfl)) hK rfl df_X9 hS hz (Nat.le_refl _) (Nat.le_of_ble_eq_true rfl) (Nat.le_of_ble_eq_true rfl) dL_law_0 (fun H at1 hz o1 hS => ?_)
  refine lv_dup hx hb dL_law_3 rfl ?_
  refine nw_call (z := h0) (tRun (va_runI (As := []) (rest := [.ref h0]) ⟨hx, hb, hml, hown, hts⟩ (cc_X9 l D cI cL cC (h0)) (cwI 0 hts gL_law_X9_init rfl rfl rfl (hts (.initialized RX9) (List.mem_of_getElem? (i := 2) rfl)) (hts (.methodLink RL 9 yX9_init) (List.mem_of_getElem? (i := 7) rfl)) (hts (.instanceMethod yX9_init) (List.mem_of_getElem? (i := 8) rfl)) rfl (by decide +kernel) ⟨Nat.le_of_ble_eq_true rfl, Nat.le_of_ble_eq_true rfl⟩) (cP_I hz at1 hE) rfl rfl hl.1 rfl (lv_room (Nat.le_of_ble_eq_true rfl)) dL_law_4 ⟨Nat.le_of_ble_eq_true rfl, Nat.le_of_ble_eq_true rfl⟩)) hS hz (by decide) (Nat.le_refl _) (fun H locs sg9 hz o2 hS => ?_)
  have hz : H.size = h0 + 92 := tSlen (n := 92) hz rfl
  clear o2
  refine lv_astore_n (lv' := [(1, .ref h0), (0, .ref b)]) hx hb dL_law_7 rfl hl (by decide) rfl (fun ls hl => ?_)
  refine nw_new (ci := 9) (fs := [.int 0, .null, .int 0, .int 0, .null, .null, .null, .null, .int 0, .null, .null, .null, .null, .int 0, .null, .null, .null, .int 0, .null, .null, .null, .null, .null, .null, .null, .null, .null, .int 0, .int 0, .int 0, .int 0, .int 0, .null, .int 0, .int 0, .null]) (C := RX10) (T := TX10) (N := 36) (z := h0 + 92) hx hb hts inlX10 tyX10 tyX10_ok hown (hts (.classLink RL 10 RX10) (List.mem_of_getElem? (i := 3) rfl)) (hts (.instantiable RX10 36) (List.mem_of_getElem? (i := 4) rfl)) (hts (.initialized RX10) (List.mem_of_getElem? (i := 5) rfl)) hK rfl df_X10 hS hz (Nat.le_add_right _ _) (Nat.le_of_ble_eq_true rfl) (Nat.le_of_ble_eq_true rfl) dL_law_8 (fun H at1 hz o1 hS => ?_)
  replace sg9 := tS.keptA (b := h0) (z := 92) 0 92 sg9 rfl o1 (Nat.le_of_ble_eq_true rfl)
  refine lv_dup hx hb dL_law_11 rfl ?_
  refine nw_call (z := h0 + 92) (tRun (va_runI (As := []) (rest := [.ref (h0 + 92)]) ⟨hx, hb, hml, hown, hts⟩ (cc_X10 l D cI cL cC (h0 + 92)) (cwI 0 hts gL_law_X10_init rfl rfl rfl (hts (.initialized RX10) (List.mem_of_getElem? (i := 5) rfl)) (hts (.methodLink RL 12 yX10_init) (List.mem_of_getElem? (i := 132) rfl)) (hts (.instanceMethod yX10_init) (List.mem_of_getElem? (i := 133) rfl)) rfl (by decide +kernel) ⟨Nat.le_of_ble_eq_true rfl, Nat.le_of_ble_eq_true rfl⟩) (cP_I hz at1 hE) rfl rfl hl.1 rfl (lv_room (Nat.le_of_ble_eq_true rfl)) dL_law_12 ⟨Nat.le_of_ble_eq_true rfl, Nat.le_of_ble_eq_true rfl⟩)) hS hz (by decide) (Nat.le_add_right _ _) (fun H locs sg10 hz o2 hS => ?_)
  replace sg9 := tS.keptA (b := h0) (z := 92) 0 92 sg9 rfl o2 (Nat.le_of_ble_eq_true rfl)
  refine lv_astore_n (lv' := [(2, .ref (h0 + 92)), (1, .ref h0), (0, .ref b)]) hx hb dL_law_15 rfl hl (by decide) rfl (fun ls hl => ?_)
  refine lv_iconst (v := 0) hx hb dL_law_16 (by decide) ?_
  refine lv_istore_n (lv' := [(3, .int 0), (2, .ref (h0 + 92)), (1, .ref h0), (0, .ref b)]) hx hb dL_law_17 rfl hl (by decide) rfl (fun ls hl => ?_)
  have hG : tG D (gF cI cL cC 0 0 0 (fun _ => 0) (fun _ => 0)) (tK2 KLx h0) H := tS.good sg9
  have hM : tG D (mF cI cL cC 0 0 (fun _ => 0) (fun _ => 0) (fun _ => 0) 0 0 0 (fun _ => 0) (fun _ => 0) (fun _ => 0) (fun _ => 0) 0 0 0 0 0 0 0 0 (fun _ => 0)) (tK2 KLm (h0 + 92)) H := tS.good sg10
  have kt : tK2 KLx h0 h0 = 1 := tK2_at KLx h0 0
  have kt2 : tK2 KLm (h0 + 92) (h0 + 92) = 40 := tK2_at KLm (h0 + 92) 0
  have hx0 : ∀ q : Nat, q < h0 → tK2 KLx h0 q = 0 := fun q h => tK2_lt h
  have hm00 : ∀ q : Nat, q < h0 → tK2 KLm (h0 + 92) q = 0 := fun q h => tK2_lt (by omega)
  have dj : ∀ q : Nat, tK2 KLm (h0 + 92) q ≠ 0 → tK2 KLx h0 q = 0 := fun q h => tK2_ge (by have := (tK2_rng h).1; show h0 + 92 ≤ q; exact this)
  have dj2 : ∀ q : Nat, tK2 KLx h0 q ≠ 0 → tK2 KLm (h0 + 92) q = 0 := fun q h => tK2_lt (by have := (tK2_rng h).2; show q < h0 + 92; exact this)
  have uq_gC : ∀ b c : Nat, tK2 KLx h0 b = 2 → tK2 KLx h0 c = 2 → b = c := fun b c h1 h2 => (tK2_uq (by decide) KLx_2 h1).trans (tK2_uq (by decide) KLx_2 h2).symm
  have uq_gE : ∀ b c : Nat, tK2 KLx h0 b = 6 → tK2 KLx h0 c = 6 → b = c := fun b c h1 h2 => (tK2_uq (by decide) KLx_6 h1).trans (tK2_uq (by decide) KLx_6 h2).symm
  have uq_gW : ∀ b c : Nat, tK2 KLx h0 b = 29 → tK2 KLx h0 c = 29 → b = c := fun b c h1 h2 => (tK2_uq (by decide) KLx_29 h1).trans (tK2_uq (by decide) KLx_29 h2).symm
  have uq_gA : ∀ b c : Nat, tK2 KLx h0 b = 31 → tK2 KLx h0 c = 31 → b = c := fun b c h1 h2 => (tK2_uq (by decide) KLx_31 h1).trans (tK2_uq (by decide) KLx_31 h2).symm
  have uqm : ∀ b c : Nat, tK2 KLm (h0 + 92) b = tK2 KLm (h0 + 92) c → tK2 KLm (h0 + 92) b ≠ 0 → b = c := fun b c e h => tK2_inj KLm_inj e h
  generalize tK2 KLx h0 = tx at hG kt hx0 dj dj2 uq_gC uq_gE uq_gW uq_gA
  generalize tK2 KLm (h0 + 92) = tm at hM kt2 hm00 dj dj2 uqm
  replace hX : va_X b L xs s H := hX.kept (hS.2.1 b hbl)
  clear sg9 sg10 o1 o2 at1
  have fin : ∀ (H1 : Heap) (locs1 : List Loc) (ls1 : Array Slot), cF h0 s.heap H1 locs1 → W p l e room_1 s m #[Value.ref b] below meth c H1 locs1 (0 + 1 + 91 + 1 + 23) (0 + 18 + 4915 + 36 + 3525) (lw_Z below #[Value.ref b] s) (F0 m 1415 ls1 []) := by
    intro H1 locs1 ls1 hS1
    refine lv_iconst (v := 1) hx hb dL_law_1415 (by decide) ?_
    refine va_forget (fun q hq => (hS1.2.2 q hq : h0 ≤ q.base) |> fun h => by rw [show s.heap.size = h0 by assumption]; exact h) ?_
    refine W.widen (k := 600000) (n := 7302250) (Nat.le_of_ble_eq_true rfl) (Nat.le_of_ble_eq_true rfl) ?_
    exact lw_ret hx hb hr hlocks dL_law_1416
  have loop : ∀ (k : Nat) (yi : Int32) (gC : Int32) (gE : Int32) (G : Nat) (gW : Nat → Int32) (gA : Nat → Int32) (gT : Nat → Int32) (gI : Int32) (gS : Int32) (gM : Int32) (K : Nat → Int32) (F : Nat → Int32) (S : Nat → Int32) (N : Nat → Int32) (gH : Int) (gJ : Int) (ge : Int32) (gk : Int32) (gf : Int32) (gs : Int32) (gg : Int32) (gr : Int32) (RN : Nat → Int32) (H1 : Heap) (locs1 : List Loc) (ls1 : Array Slot), (L : Int) - yi.toInt ≤ (k : Int) → 0 ≤ yi.toInt → yi.toInt ≤ 4096 → tG D (gF cI cL cC gC gE G gW gA) tx H1 → tG D (mF cI cL cC gC gE gW gA gT gI gS gM K F S N gH gJ ge gk gf gs gg gr RN) tm H1 → 0 ≤ gC.toInt → gC.toInt ≤ 400 → 0 ≤ gI.toInt → gI.toInt ≤ 40 → 0 ≤ gH → gH ≤ 96 → 0 ≤ gM.toInt → gM.toInt ≤ 3 → okM K F S N 0 gI.toInt → swM gS K F S N gI.toInt → (G : Int) ≤ 3072 * yi.toInt → cF h0 s.heap H1 locs1 → va_X b L xs s H1 → lv_has ls1 4 [(3, .int yi), (2, .ref (h0 + 92)), (1, .ref h0), (0, .ref b)] → W p l e room_1 s m #[Value.ref b] below meth c H1 locs1 (0 + 1 + 91 + 1 + 23) (0 + 18 + 4915 + 36 + 3525) (lw_Z below #[Value.ref b] s) (F0 m 18 ls1 []) := by
    intro k
    induction k with
    | zero =>
      intro yi gC gE G gW gA gT gI gS gM K F S N gH gJ ge gk gf gs gg gr RN H locs ls hk hy0 hy4 hG hM hC0 hC4 hI0 hI4 hH0 hH9 hm0 hm3 hO0 hW hGb hS hX hl
      refine lv_iload_n hx hb dL_law_18 rfl (lv_at hl 0 rfl) ?_
      refine lv_aload_n hx hb dL_law_19 rfl (lv_at hl 3 rfl) ?_
      refine ty_slen hx hb hX dL_law_20 ?_
      refine lv_bipush (v := 8) hx hb dL_law_21 (by decide) ?_
      refine lv_isub hx hb dL_law_23 ?_
      refine lv_topi (fun xl el => ?_)
      have hLn : (Int32.ofNat L).toInt = (L : Int) := nI_toInt (by omega)
      have il : xl.toInt = (L : Int) - 8 := by rw [el]; exact (q_sub (by rw [hLn, show (8 : Int32).toInt = 8 by decide]; omega) (by rw [hLn, show (8 : Int32).toInt = 8 by decide]; omega)).trans (by rw [hLn, show (8 : Int32).toInt = 8 by decide])
      refine lv_icmp_gt (tgt := 1415) hx hb dL_law_24 (by decide) (fun _ => fin H locs ls hS) (fun q => ?_)
      have hy8 := q_nlt q
      exfalso; omega
    | succ k ih =>
      intro yi gC gE G gW gA gT gI gS gM K F S N gH gJ ge gk gf gs gg gr RN H locs ls hk hy0 hy4 hG hM hC0 hC4 hI0 hI4 hH0 hH9 hm0 hm3 hO0 hW hGb hS hX hl
      refine lv_iload_n hx hb dL_law_18 rfl (lv_at hl 0 rfl) ?_
      refine lv_aload_n hx hb dL_law_19 rfl (lv_at hl 3 rfl) ?_
      refine ty_slen hx hb hX dL_law_20 ?_
      refine lv_bipush (v := 8) hx hb dL_law_21 (by decide) ?_
      refine lv_isub hx hb dL_law_23 ?_
      refine lv_topi (fun xl el => ?_)
      have hLn : (Int32.ofNat L).toInt = (L : Int) := nI_toInt (by omega)
      have il : xl.toInt = (L : Int) - 8 := by rw [el]; exact (q_sub (by rw [hLn, show (8 : Int32).toInt = 8 by decide]; omega) (by rw [hLn, show (8 : Int32).toInt = 8 by decide]; omega)).trans (by rw [hLn, show (8 : Int32).toInt = 8 by decide])
      refine lv_icmp_gt (tgt := 1415) hx hb dL_law_24 (by decide) (fun _ => fin H locs ls hS) (fun q => ?_)
      have hy8 := q_nlt q
      rw [il] at hy8
      have hy8 : yi.toInt + 8 ≤ (L : Int) := by omega
      have kx : ∀ (H1 : Heap) (locs1 : List Loc) (gC' : Int32) (gE' : Int32) (G' : Nat) (gW' : Nat → Int32) (gA' : Nat → Int32) (gT' : Nat → Int32) (gI' : Int32) (gS' : Int32) (gM' : Int32) (K' : Nat → Int32) (F' : Nat → Int32) (S' : Nat → Int32) (N' : Nat → Int32) (gH' : Int) (gJ' : Int) (ge' : Int32) (gk' : Int32) (gf' : Int32) (gs' : Int32) (gg' : Int32) (gr' : Int32) (RN' : Nat → Int32), tG D (gF cI cL cC gC' gE' G' gW' gA') tx H1 → tG D (mF cI cL cC gC' gE' gW' gA' gT' gI' gS' gM' K' F' S' N' gH' gJ' ge' gk' gf' gs' gg' gr' RN') tm H1 → 0 ≤ gC'.toInt → gC'.toInt ≤ 400 → 0 ≤ gI'.toInt → gI'.toInt ≤ 40 → 0 ≤ gH' → gH' ≤ 96 → 0 ≤ gM'.toInt → gM'.toInt ≤ 3 → okM K' F' S' N' 0 gI'.toInt → swM gS' K' F' S' N' gI'.toInt → (G' : Int) ≤ 3072 * yi.toInt + 24576 → cF h0 s.heap H1 locs1 → va_X b L xs s H1 → W p l e room_1 s m #[Value.ref b] below meth c H1 locs1 (0 + 1 + 91 + 1 + 23) (0 + 18 + 4915 + 36 + 3525) (lw_Z below #[Value.ref b] s) (F0 m 1409 ls []) := by
        intro H1 locs1 gC' gE' G' gW' gA' gT' gI' gS' gM' K' F' S' N' gH' gJ' ge' gk' gf' gs' gg' gr' RN' hG hM hC0 hC4 hI0 hI4 hH0 hH9 hm0 hm3 hO0 hW hGb hS hX
        obtain ⟨x8, e8⟩ : ∃ y : Int32, y = yi + Int32.ofInt 8 := ⟨_, rfl⟩
        have i8 : x8.toInt = yi.toInt + 8 := by rw [e8, show Int32.ofInt 8 = 8 by decide]; exact (q_add (by rw [show (8 : Int32).toInt = 8 by decide]; omega) (by rw [show (8 : Int32).toInt = 8 by decide]; omega)).trans (by rw [show (8 : Int32).toInt = 8 by decide])
        refine lv_iinc (v := x8) (lv' := [(3, .int x8), (2, .ref (h0 + 92)), (1, .ref h0), (0, .ref b)]) hx hb dL_law_1409 hl (k := 0) rfl e8.symm (by decide) rfl (fun ls hl => ?_)
        refine lv_goto (tgt := 18) hx hb dL_law_1412 (by decide) ?_
        exact ih x8 _ _ _ _ _ _ _ _ _ _ _ _ _ _ _ _ _ _ _ _ _ _ H1 locs1 ls (by omega) (by omega) (by omega) hG hM hC0 hC4 hI0 hI4 hH0 hH9 hm0 hm3 hO0 hW (by omega) hS hX hl
      refine lv_aload_n hx hb dL_law_27 rfl (lv_at hl 3 rfl) ?_
      refine lv_iload_n hx hb dL_law_28 rfl (lv_at hl 0 rfl) ?_
      refine ty_sld hx hb hX (i := yi) (q_in (by omega) (by omega)) dL_law_29 ?_
      refine lv_bipush (v := 63) hx hb dL_law_30 (by decide) ?_
      refine lv_iand hx hb dL_law_32 ?_
      refine lv_topi (fun x0 e0 => ?_)
      by_cases k0 : x0.toInt = 0
      · refine lv_tableIn (tgt := 188) hx hb dL_law_33 (by rw [k0]; decide) (by rw [k0]; decide) (by rw [k0]; rfl) (by decide) ?_
        exact lc_0 hx hb hml hown hts hE hbl hG hM kt kt2 hx0 hm00 dj dj2 uq_gC uq_gE uq_gW uq_gA uqm hC0 hC4 hI0 hI4 hH0 hH9 hm0 hm3 hO0 hW hGb hy0 hy8 hL hS hX hl (Nat.le_of_ble_eq_true rfl) (Nat.le_of_ble_eq_true rfl) kx
      by_cases k1 : x0.toInt = 1
      · refine lv_tableIn (tgt := 251) hx hb dL_law_33 (by rw [k1]; decide) (by rw [k1]; decide) (by rw [k1]; rfl) (by decide) ?_
        exact lc_1 hx hb hml hown hts hE hbl hG hM kt kt2 hx0 hm00 dj dj2 uq_gC uq_gE uq_gW uq_gA uqm hC0 hC4 hI0 hI4 hH0 hH9 hm0 hm3 hO0 hW hGb hy0 hy8 hL hS hX hl (Nat.le_of_ble_eq_true rfl) (Nat.le_of_ble_eq_true rfl) kx
      by_cases k2 : x0.toInt = 2
      · refine lv_tableIn (tgt := 264) hx hb dL_law_33 (by rw [k2]; decide) (by rw [k2]; decide) (by rw [k2]; rfl) (by decide) ?_
        exact lc_2 hx hb hml hown hts hE hbl hG hM kt kt2 hx0 hm00 dj dj2 uq_gC uq_gE uq_gW uq_gA uqm hC0 hC4 hI0 hI4 hH0 hH9 hm0 hm3 hO0 hW hGb hy0 hy8 hL hS hX hl (Nat.le_of_ble_eq_true rfl) (Nat.le_of_ble_eq_true rfl) kx
      by_cases k3 : x0.toInt = 3
      · refine lv_tableIn (tgt := 277) hx hb dL_law_33 (by rw [k3]; decide) (by rw [k3]; decide) (by rw [k3]; rfl) (by decide) ?_
        exact lc_3 hx hb hml hown hts hE hbl hG hM kt kt2 hx0 hm00 dj dj2 uq_gC uq_gE uq_gW uq_gA uqm hC0 hC4 hI0 hI4 hH0 hH9 hm0 hm3 hO0 hW hGb hy0 hy8 hL hS hX hl (Nat.le_of_ble_eq_true rfl) (Nat.le_of_ble_eq_true rfl) kx
      by_cases k4 : x0.toInt = 4
      · refine lv_tableIn (tgt := 290) hx hb dL_law_33 (by rw [k4]; decide) (by rw [k4]; decide) (by rw [k4]; rfl) (by decide) ?_
        exact lc_4 hx hb hml hown hts hE hbl hG hM kt kt2 hx0 hm00 dj dj2 uq_gC uq_gE uq_gW uq_gA uqm hC0 hC4 hI0 hI4 hH0 hH9 hm0 hm3 hO0 hW hGb hy0 hy8 hL hS hX hl (Nat.le_of_ble_eq_true rfl) (Nat.le_of_ble_eq_true rfl) kx
      by_cases k5 : x0.toInt = 5
      · refine lv_tableIn (tgt := 323) hx hb dL_law_33 (by rw [k5]; decide) (by rw [k5]; decide) (by rw [k5]; rfl) (by decide) ?_
        exact lc_5 hx hb hml hown hts hE hbl hG hM kt kt2 hx0 hm00 dj dj2 uq_gC uq_gE uq_gW uq_gA uqm hC0 hC4 hI0 hI4 hH0 hH9 hm0 hm3 hO0 hW hGb hy0 hy8 hL hS hX hl (Nat.le_of_ble_eq_true rfl) (Nat.le_of_ble_eq_true rfl) kx
      by_cases k6 : x0.toInt = 6
      · refine lv_tableIn (tgt := 376) hx hb dL_law_33 (by rw [k6]; decide) (by rw [k6]; decide) (by rw [k6]; rfl) (by decide) ?_
        exact lc_6 hx hb hml hown hts hE hbl hG hM kt kt2 hx0 hm00 dj dj2 uq_gC uq_gE uq_gW uq_gA uqm hC0 hC4 hI0 hI4 hH0 hH9 hm0 hm3 hO0 hW hGb hy0 hy8 hL hS hX hl (Nat.le_of_ble_eq_true rfl) (Nat.le_of_ble_eq_true rfl) kx
      by_cases k7 : x0.toInt = 7
      · refine lv_tableIn (tgt := 389) hx hb dL_law_33 (by rw [k7]; decide) (by rw [k7]; decide) (by rw [k7]; rfl) (by decide) ?_
        exact lc_7 hx hb hml hown hts hE hbl hG hM kt kt2 hx0 hm00 dj dj2 uq_gC uq_gE uq_gW uq_gA uqm hC0 hC4 hI0 hI4 hH0 hH9 hm0 hm3 hO0 hW hGb hy0 hy8 hL hS hX hl (Nat.le_of_ble_eq_true rfl) (Nat.le_of_ble_eq_true rfl) kx
      by_cases k8 : x0.toInt = 8
      · refine lv_tableIn (tgt := 412) hx hb dL_law_33 (by rw [k8]; decide) (by rw [k8]; decide) (by rw [k8]; rfl) (by decide) ?_
        exact lc_8 hx hb hml hown hts hE hbl hG hM kt kt2 hx0 hm00 dj dj2 uq_gC uq_gE uq_gW uq_gA uqm hC0 hC4 hI0 hI4 hH0 hH9 hm0 hm3 hO0 hW hGb hy0 hy8 hL hS hX hl (Nat.le_of_ble_eq_true rfl) (Nat.le_of_ble_eq_true rfl) kx
      by_cases k9 : x0.toInt = 9
      · refine lv_tableIn (tgt := 445) hx hb dL_law_33 (by rw [k9]; decide) (by rw [k9]; decide) (by rw [k9]; rfl) (by decide) ?_
        exact lc_9 hx hb hml hown hts hE hbl hG hM kt kt2 hx0 hm00 dj dj2 uq_gC uq_gE uq_gW uq_gA uqm hC0 hC4 hI0 hI4 hH0 hH9 hm0 hm3 hO0 hW hGb hy0 hy8 hL hS hX hl (Nat.le_of_ble_eq_true rfl) (Nat.le_of_ble_eq_true rfl) kx
      by_cases k10 : x0.toInt = 10
      · refine lv_tableIn (tgt := 468) hx hb dL_law_33 (by rw [k10]; decide) (by rw [k10]; decide) (by rw [k10]; rfl) (by decide) ?_
        exact lc_10 hx hb hml hown hts hE hbl hG hM kt kt2 hx0 hm00 dj dj2 uq_gC uq_gE uq_gW uq_gA uqm hC0 hC4 hI0 hI4 hH0 hH9 hm0 hm3 hO0 hW hGb hy0 hy8 hL hS hX hl (Nat.le_of_ble_eq_true rfl) (Nat.le_of_ble_eq_true rfl) kx
      by_cases k11 : x0.toInt = 11
      · refine lv_tableIn (tgt := 501) hx hb dL_law_33 (by rw [k11]; decide) (by rw [k11]; decide) (by rw [k11]; rfl) (by decide) ?_
        exact lc_11 hx hb hml hown hts hE hbl hG hM kt kt2 hx0 hm00 dj dj2 uq_gC uq_gE uq_gW uq_gA uqm hC0 hC4 hI0 hI4 hH0 hH9 hm0 hm3 hO0 hW hGb hy0 hy8 hL hS hX hl (Nat.le_of_ble_eq_true rfl) (Nat.le_of_ble_eq_true rfl) kx
      by_cases k12 : x0.toInt = 12
      · refine lv_tableIn (tgt := 524) hx hb dL_law_33 (by rw [k12]; decide) (by rw [k12]; decide) (by rw [k12]; rfl) (by decide) ?_
        exact lc_12 hx hb hml hown hts hE hbl hG hM kt kt2 hx0 hm00 dj dj2 uq_gC uq_gE uq_gW uq_gA uqm hC0 hC4 hI0 hI4 hH0 hH9 hm0 hm3 hO0 hW hGb hy0 hy8 hL hS hX hl (Nat.le_of_ble_eq_true rfl) (Nat.le_of_ble_eq_true rfl) kx
      by_cases k13 : x0.toInt = 13
      · refine lv_tableIn (tgt := 567) hx hb dL_law_33 (by rw [k13]; decide) (by rw [k13]; decide) (by rw [k13]; rfl) (by decide) ?_
        exact lc_13 hx hb hml hown hts hE hbl hG hM kt kt2 hx0 hm00 dj dj2 uq_gC uq_gE uq_gW uq_gA uqm hC0 hC4 hI0 hI4 hH0 hH9 hm0 hm3 hO0 hW hGb hy0 hy8 hL hS hX hl (Nat.le_of_ble_eq_true rfl) (Nat.le_of_ble_eq_true rfl) kx
      by_cases k14 : x0.toInt = 14
      · refine lv_tableIn (tgt := 590) hx hb dL_law_33 (by rw [k14]; decide) (by rw [k14]; decide) (by rw [k14]; rfl) (by decide) ?_
        exact lc_14 hx hb hml hown hts hE hbl hG hM kt kt2 hx0 hm00 dj dj2 uq_gC uq_gE uq_gW uq_gA uqm hC0 hC4 hI0 hI4 hH0 hH9 hm0 hm3 hO0 hW hGb hy0 hy8 hL hS hX hl (Nat.le_of_ble_eq_true rfl) (Nat.le_of_ble_eq_true rfl) kx
      by_cases k15 : x0.toInt = 15
      · refine lv_tableIn (tgt := 633) hx hb dL_law_33 (by rw [k15]; decide) (by rw [k15]; decide) (by rw [k15]; rfl) (by decide) ?_
        exact lc_15 hx hb hml hown hts hE hbl hG hM kt kt2 hx0 hm00 dj dj2 uq_gC uq_gE uq_gW uq_gA uqm hC0 hC4 hI0 hI4 hH0 hH9 hm0 hm3 hO0 hW hGb hy0 hy8 hL hS hX hl (Nat.le_of_ble_eq_true rfl) (Nat.le_of_ble_eq_true rfl) kx
      by_cases k16 : x0.toInt = 16
      · refine lv_tableIn (tgt := 656) hx hb dL_law_33 (by rw [k16]; decide) (by rw [k16]; decide) (by rw [k16]; rfl) (by decide) ?_
        exact lc_16 hx hb hml hown hts hE hbl hG hM kt kt2 hx0 hm00 dj dj2 uq_gC uq_gE uq_gW uq_gA uqm hC0 hC4 hI0 hI4 hH0 hH9 hm0 hm3 hO0 hW hGb hy0 hy8 hL hS hX hl (Nat.le_of_ble_eq_true rfl) (Nat.le_of_ble_eq_true rfl) kx
      by_cases k17 : x0.toInt = 17
      · refine lv_tableIn (tgt := 731) hx hb dL_law_33 (by rw [k17]; decide) (by rw [k17]; decide) (by rw [k17]; rfl) (by decide) ?_
        exact lc_17 hx hb hml hown hts hE hbl hG hM kt kt2 hx0 hm00 dj dj2 uq_gC uq_gE uq_gW uq_gA uqm hC0 hC4 hI0 hI4 hH0 hH9 hm0 hm3 hO0 hW hGb hy0 hy8 hL hS hX hl (Nat.le_of_ble_eq_true rfl) (Nat.le_of_ble_eq_true rfl) kx
      by_cases k18 : x0.toInt = 18
      · refine lv_tableIn (tgt := 744) hx hb dL_law_33 (by rw [k18]; decide) (by rw [k18]; decide) (by rw [k18]; rfl) (by decide) ?_
        exact lc_18 hx hb hml hown hts hE hbl hG hM kt kt2 hx0 hm00 dj dj2 uq_gC uq_gE uq_gW uq_gA uqm hC0 hC4 hI0 hI4 hH0 hH9 hm0 hm3 hO0 hW hGb hy0 hy8 hL hS hX hl (Nat.le_of_ble_eq_true rfl) (Nat.le_of_ble_eq_true rfl) kx
      by_cases k19 : x0.toInt = 19
      · refine lv_tableIn (tgt := 777) hx hb dL_law_33 (by rw [k19]; decide) (by rw [k19]; decide) (by rw [k19]; rfl) (by decide) ?_
        exact lc_19 hx hb hml hown hts hE hbl hG hM kt kt2 hx0 hm00 dj dj2 uq_gC uq_gE uq_gW uq_gA uqm hC0 hC4 hI0 hI4 hH0 hH9 hm0 hm3 hO0 hW hGb hy0 hy8 hL hS hX hl (Nat.le_of_ble_eq_true rfl) (Nat.le_of_ble_eq_true rfl) kx
      by_cases k20 : x0.toInt = 20
      · refine lv_tableIn (tgt := 800) hx hb dL_law_33 (by rw [k20]; decide) (by rw [k20]; decide) (by rw [k20]; rfl) (by decide) ?_
        exact lc_20 hx hb hml hown hts hE hbl hG hM kt kt2 hx0 hm00 dj dj2 uq_gC uq_gE uq_gW uq_gA uqm hC0 hC4 hI0 hI4 hH0 hH9 hm0 hm3 hO0 hW hGb hy0 hy8 hL hS hX hl (Nat.le_of_ble_eq_true rfl) (Nat.le_of_ble_eq_true rfl) kx
      by_cases k21 : x0.toInt = 21
      · refine lv_tableIn (tgt := 833) hx hb dL_law_33 (by rw [k21]; decide) (by rw [k21]; decide) (by rw [k21]; rfl) (by decide) ?_
        exact lc_21 hx hb hml hown hts hE hbl hG hM kt kt2 hx0 hm00 dj dj2 uq_gC uq_gE uq_gW uq_gA uqm hC0 hC4 hI0 hI4 hH0 hH9 hm0 hm3 hO0 hW hGb hy0 hy8 hL hS hX hl (Nat.le_of_ble_eq_true rfl) (Nat.le_of_ble_eq_true rfl) kx
      by_cases k22 : x0.toInt = 22
      · refine lv_tableIn (tgt := 876) hx hb dL_law_33 (by rw [k22]; decide) (by rw [k22]; decide) (by rw [k22]; rfl) (by decide) ?_
        exact lc_22 hx hb hml hown hts hE hbl hG hM kt kt2 hx0 hm00 dj dj2 uq_gC uq_gE uq_gW uq_gA uqm hC0 hC4 hI0 hI4 hH0 hH9 hm0 hm3 hO0 hW hGb hy0 hy8 hL hS hX hl (Nat.le_of_ble_eq_true rfl) (Nat.le_of_ble_eq_true rfl) kx
      by_cases k23 : x0.toInt = 23
      · refine lv_tableIn (tgt := 949) hx hb dL_law_33 (by rw [k23]; decide) (by rw [k23]; decide) (by rw [k23]; rfl) (by decide) ?_
        exact lc_23 hx hb hml hown hts hE hbl hG hM kt kt2 hx0 hm00 dj dj2 uq_gC uq_gE uq_gW uq_gA uqm hC0 hC4 hI0 hI4 hH0 hH9 hm0 hm3 hO0 hW hGb hy0 hy8 hL hS hX hl (Nat.le_of_ble_eq_true rfl) (Nat.le_of_ble_eq_true rfl) kx
      by_cases k24 : x0.toInt = 24
      · refine lv_tableIn (tgt := 1032) hx hb dL_law_33 (by rw [k24]; decide) (by rw [k24]; decide) (by rw [k24]; rfl) (by decide) ?_
        exact lc_24 hx hb hml hown hts hE hbl hG hM kt kt2 hx0 hm00 dj dj2 uq_gC uq_gE uq_gW uq_gA uqm hC0 hC4 hI0 hI4 hH0 hH9 hm0 hm3 hO0 hW hGb hy0 hy8 hL hS hX hl (Nat.le_of_ble_eq_true rfl) (Nat.le_of_ble_eq_true rfl) kx
      by_cases k25 : x0.toInt = 25
      · refine lv_tableIn (tgt := 1055) hx hb dL_law_33 (by rw [k25]; decide) (by rw [k25]; decide) (by rw [k25]; rfl) (by decide) ?_
        exact lc_25 hx hb hml hown hts hE hbl hG hM kt kt2 hx0 hm00 dj dj2 uq_gC uq_gE uq_gW uq_gA uqm hC0 hC4 hI0 hI4 hH0 hH9 hm0 hm3 hO0 hW hGb hy0 hy8 hL hS hX hl (Nat.le_of_ble_eq_true rfl) (Nat.le_of_ble_eq_true rfl) kx
      by_cases k26 : x0.toInt = 26
      · refine lv_tableIn (tgt := 1098) hx hb dL_law_33 (by rw [k26]; decide) (by rw [k26]; decide) (by rw [k26]; rfl) (by decide) ?_
        exact lc_26 hx hb hml hown hts hE hbl hG hM kt kt2 hx0 hm00 dj dj2 uq_gC uq_gE uq_gW uq_gA uqm hC0 hC4 hI0 hI4 hH0 hH9 hm0 hm3 hO0 hW hGb hy0 hy8 hL hS hX hl (Nat.le_of_ble_eq_true rfl) (Nat.le_of_ble_eq_true rfl) kx
      by_cases k27 : x0.toInt = 27
      · refine lv_tableIn (tgt := 1205) hx hb dL_law_33 (by rw [k27]; decide) (by rw [k27]; decide) (by rw [k27]; rfl) (by decide) ?_
        exact lc_27 hx hb hml hown hts hE hbl hG hM kt kt2 hx0 hm00 dj dj2 uq_gC uq_gE uq_gW uq_gA uqm hC0 hC4 hI0 hI4 hH0 hH9 hm0 hm3 hO0 hW hGb hy0 hy8 hL hS hX hl (Nat.le_of_ble_eq_true rfl) (Nat.le_of_ble_eq_true rfl) kx
      by_cases k28 : x0.toInt = 28
      · refine lv_tableIn (tgt := 1228) hx hb dL_law_33 (by rw [k28]; decide) (by rw [k28]; decide) (by rw [k28]; rfl) (by decide) ?_
        exact lc_28 hx hb hml hown hts hE hbl hG hM kt kt2 hx0 hm00 dj dj2 uq_gC uq_gE uq_gW uq_gA uqm hC0 hC4 hI0 hI4 hH0 hH9 hm0 hm3 hO0 hW hGb hy0 hy8 hL hS hX hl (Nat.le_of_ble_eq_true rfl) (Nat.le_of_ble_eq_true rfl) kx
      by_cases k29 : x0.toInt = 29
      · refine lv_tableIn (tgt := 1271) hx hb dL_law_33 (by rw [k29]; decide) (by rw [k29]; decide) (by rw [k29]; rfl) (by decide) ?_
        exact lc_29 hx hb hml hown hts hE hbl hG hM kt kt2 hx0 hm00 dj dj2 uq_gC uq_gE uq_gW uq_gA uqm hC0 hC4 hI0 hI4 hH0 hH9 hm0 hm3 hO0 hW hGb hy0 hy8 hL hS hX hl (Nat.le_of_ble_eq_true rfl) (Nat.le_of_ble_eq_true rfl) kx
      by_cases k30 : x0.toInt = 30
      · refine lv_tableIn (tgt := 1284) hx hb dL_law_33 (by rw [k30]; decide) (by rw [k30]; decide) (by rw [k30]; rfl) (by decide) ?_
        exact lc_30 hx hb hml hown hts hE hbl hG hM kt kt2 hx0 hm00 dj dj2 uq_gC uq_gE uq_gW uq_gA uqm hC0 hC4 hI0 hI4 hH0 hH9 hm0 hm3 hO0 hW hGb hy0 hy8 hL hS hX hl (Nat.le_of_ble_eq_true rfl) (Nat.le_of_ble_eq_true rfl) kx
      by_cases k31 : x0.toInt = 31
      · refine lv_tableIn (tgt := 1317) hx hb dL_law_33 (by rw [k31]; decide) (by rw [k31]; decide) (by rw [k31]; rfl) (by decide) ?_
        exact lc_31 hx hb hml hown hts hE hbl hG hM kt kt2 hx0 hm00 dj dj2 uq_gC uq_gE uq_gW uq_gA uqm hC0 hC4 hI0 hI4 hH0 hH9 hm0 hm3 hO0 hW hGb hy0 hy8 hL hS hX hl (Nat.le_of_ble_eq_true rfl) (Nat.le_of_ble_eq_true rfl) kx
      by_cases k32 : x0.toInt = 32
      · refine lv_tableIn (tgt := 1360) hx hb dL_law_33 (by rw [k32]; decide) (by rw [k32]; decide) (by rw [k32]; rfl) (by decide) ?_
        exact lc_32 hx hb hml hown hts hE hbl hG hM kt kt2 hx0 hm00 dj dj2 uq_gC uq_gE uq_gW uq_gA uqm hC0 hC4 hI0 hI4 hH0 hH9 hm0 hm3 hO0 hW hGb hy0 hy8 hL hS hX hl (Nat.le_of_ble_eq_true rfl) (Nat.le_of_ble_eq_true rfl) kx
      by_cases k33 : x0.toInt = 33
      · refine lv_tableIn (tgt := 1373) hx hb dL_law_33 (by rw [k33]; decide) (by rw [k33]; decide) (by rw [k33]; rfl) (by decide) ?_
        exact lc_33 hx hb hml hown hts hE hbl hG hM kt kt2 hx0 hm00 dj dj2 uq_gC uq_gE uq_gW uq_gA uqm hC0 hC4 hI0 hI4 hH0 hH9 hm0 hm3 hO0 hW hGb hy0 hy8 hL hS hX hl (Nat.le_of_ble_eq_true rfl) (Nat.le_of_ble_eq_true rfl) kx
      by_cases k34 : x0.toInt = 34
      · refine lv_tableIn (tgt := 1386) hx hb dL_law_33 (by rw [k34]; decide) (by rw [k34]; decide) (by rw [k34]; rfl) (by decide) ?_
        exact lc_34 hx hb hml hown hts hE hbl hG hM kt kt2 hx0 hm00 dj dj2 uq_gC uq_gE uq_gW uq_gA uqm hC0 hC4 hI0 hI4 hH0 hH9 hm0 hm3 hO0 hW hGb hy0 hy8 hL hS hX hl (Nat.le_of_ble_eq_true rfl) (Nat.le_of_ble_eq_true rfl) kx
      refine lv_tableOut (tgt := 1409) hx hb dL_law_33 (by omega) (by decide) ?_
      exact kx H locs _ _ _ _ _ _ _ _ _ _ _ _ _ _ _ _ _ _ _ _ _ _ hG hM hC0 hC4 hI0 hI4 hH0 hH9 hm0 hm3 hO0 hW (by omega) hS hX
  have zi_0 : (0 : Int32).toInt = 0 := by decide
  exact loop L 0 0 0 0 (fun _ => 0) (fun _ => 0) (fun _ => 0) 0 0 0 (fun _ => 0) (fun _ => 0) (fun _ => 0) (fun _ => 0) 0 0 0 0 0 0 0 0 (fun _ => 0) H _ ls (by omega) (by omega) (by omega) hG hM (by omega) (by omega) (by omega) (by omega) (by decide) (by decide) (by omega) (by omega) (fun j h0 h1 => by omega) (Or.inl (by decide)) (by omega) hS hX hl
