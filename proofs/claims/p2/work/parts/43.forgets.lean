
/-! RiverModelModel.forgets, on an object that is being made: three rows are filled -/
set_option maxHeartbeats 4000000 in
theorem c_forgets0 (l : Launch) (D : va_G) (cI cL cC : ClassId) (o a1 a2 a3 : Nat) (fs : List Value) (f1 f2 f3 : Nat → Int32) (h14 : fs[14]? = some (.ref a1)) (h16 : fs[16]? = some (.ref a2)) (h22 : fs[22]? = some (.ref a3)) (n1 : o ≠ a1 ∧ o ≠ a2 ∧ o ≠ a3) (n2 : a1 ≠ a2 ∧ a1 ≠ a3 ∧ a2 ≠ a3) :
    Met l yX10_forgets wsX10_forgets ({ frames := 0, cells := 0, slots := 0, locals := 0 }) (fgP D cI cL cC o a1 a2 a3 fs f1 f2 f3) (fgQ D cI a1 a2 a3) 0 0 (fun q => q = a1 ∨ q = a2 ∨ q = a3) := by
  refine Met.ofW (cc := cX10_forgets) (maxL := 2) (ret := none) (by decide) rfl ?_
  intro p e s m args below meth c s₁ B hml hv
  obtain ⟨rfl, ⟨hat, ha1, ha2, ha3⟩, hE⟩ := hv
  have hx := B.exec
  have hb := B.bytes
  have hr := B.returns
  have hlk := B.notSynchronized
  have hts := atoms_spec (ws := wsX10_forgets) B.pre
  have hown : s.vm.findClass RX10 = some m.cls := findClass_of_methodNamed B.named
  have in10 : ∀ w ∈ wsX100, w ∈ wsX10_forgets := fun w h => List.mem_cons_of_mem _ (List.mem_append_right _ h)
  have hK := hE.1
  have hl := lv_entry [.ref o] (n := 2) (Nat.le_of_ble_eq_true rfl)
  rw [lg_entry_eq]
  generalize (lg_sl ([.ref o]) ++ List.replicate (2 - (lg_sl ([.ref o])).length) Slot.unset).toArray = ls at hl ⊢
  have hl : lv_has ls 2 [(0, .ref o)] := hl
  have hS : r3 a1 a2 a3 s.heap s.heap [] := ⟨rfl, fun _ _ _ _ => rfl, fun _ h => by cases h⟩
  have hat0 : ∀ {H : Heap} {locs : List Loc}, r3 a1 a2 a3 s.heap H locs → va_at D vwCl (o, .inr (9, fs)) H := fun h => hat.kept (h.2.1 o n1.1 n1.2.1 n1.2.2)
  clear hat
  refine lv_iconst (v := 0) hx hb dX10_forgets_0 (by decide) ?_
  refine lv_istore_n (lv' := [(1, .int 0), (0, .ref o)]) hx hb dX10_forgets_1 rfl hl (by decide) rfl (fun ls hl => ?_)
  refine lp_gen (fun WW hWW => ?_)
  have k2 : ∀ (g : Nat → Int32) (H : Heap) (locs : List Loc) (ls : Array Slot), va_at D vwCl (a1, .inl (cI, 4, .inl g)) H → va_at D vwCl (a2, .inl (cI, 384, .inl f2)) H → va_at D vwCl (a3, .inl (cI, 2, .inl f3)) H → (∀ j : Nat, j < 4 → g j = -4) → r3 a1 a2 a3 s.heap H locs → lv_has ls 2 [(0, .ref o)] → WW H locs (F0 m 21 ls []) := by
    intro g1 H locs ls ha1 ha2 ha3 hg1 hS hl
    refine (hWW _ _ _).mpr ?_
    refine lv_iconst (v := 0) hx hb dX10_forgets_21 (by decide) ?_
    refine lv_istore_n (lv' := [(1, .int 0), (0, .ref o)]) hx hb dX10_forgets_22 rfl hl (by decide) rfl (fun ls hl => ?_)
    refine (hWW _ _ _).mp ?_
    have k3 : ∀ (g : Nat → Int32) (H : Heap) (locs : List Loc) (ls : Array Slot), va_at D vwCl (a1, .inl (cI, 4, .inl g1)) H → va_at D vwCl (a2, .inl (cI, 384, .inl g)) H → va_at D vwCl (a3, .inl (cI, 2, .inl f3)) H → (∀ j : Nat, j < 384 → g j = -1) → r3 a1 a2 a3 s.heap H locs → lv_has ls 2 [(0, .ref o)] → WW H locs (F0 m 43 ls []) := by
      intro g2 H locs ls ha1 ha2 ha3 hg2 hS hl
      refine (hWW _ _ _).mpr ?_
      refine lv_aload_n hx hb dX10_forgets_43 rfl (lv_at hl 0 rfl) ?_
      refine va_get (D := D) (ci := 9) (v := .ref a3) (C := RX10) (T := TX10) (N := 36) hx hb hts in10 hown hK (va_one (hat0 hS)) 0 rfl rfl 22 (by decide) (hts (.fieldLink RX10 59 "RiverModelModel" "knobMany" "[I") (List.mem_of_getElem? (i := 3) rfl)) (fun _ h9 => h9) h22 dX10_forgets_44 ?_
      refine lv_iconst (v := 0) hx hb dX10_forgets_47 (by decide) ?_
      refine lv_iconst (v := 0) hx hb dX10_forgets_48 (by decide) ?_
      refine nw_iast hx hb hK ha3 (q_in (by decide) (by decide)) dX10_forgets_49 (fun H1 ha3 hz1 ho1 => ?_)
      have hS := hS.put hz1 ho1 (k := (0 : Int32).toNatClampNeg) (Or.inr (Or.inr rfl))
      replace ha1 := ha1.kept (ho1 a1 n2.2.1)
      replace ha2 := ha2.kept (ho1 a2 n2.2.2)
      generalize locs ++ [(⟨a3, (0 : Int32).toNatClampNeg⟩ : Loc)] = locs at hS ⊢
      refine lv_aload_n hx hb dX10_forgets_50 rfl (lv_at hl 0 rfl) ?_
      refine va_get (D := D) (ci := 9) (v := .ref a3) (C := RX10) (T := TX10) (N := 36) hx hb hts in10 hown hK (va_one (hat0 hS)) 0 rfl rfl 22 (by decide) (hts (.fieldLink RX10 59 "RiverModelModel" "knobMany" "[I") (List.mem_of_getElem? (i := 3) rfl)) (fun _ h9 => h9) h22 dX10_forgets_51 ?_
      refine lv_iconst (v := 1) hx hb dX10_forgets_54 (by decide) ?_
      refine lv_iconst (v := 0) hx hb dX10_forgets_55 (by decide) ?_
      refine nw_iast hx hb hK ha3 (q_in (by decide) (by decide)) dX10_forgets_56 (fun H2 ha3 hz2 ho2 => ?_)
      have hS := hS.put hz2 ho2 (k := (1 : Int32).toNatClampNeg) (Or.inr (Or.inr rfl))
      replace ha1 := ha1.kept (ho2 a1 n2.2.1)
      replace ha2 := ha2.kept (ho2 a2 n2.2.2)
      generalize locs ++ [(⟨a3, (1 : Int32).toNatClampNeg⟩ : Loc)] = locs at hS ⊢
      exact W.vret hx hb hr (fun t ht hW => ⟨rfl, ⟨g1, g2, _, ⟨by rw [ht]; exact ha1, by rw [ht]; exact ha2, by rw [ht]; exact ha3⟩, hg1, hg2, fun j hj => by rcases (show j = 0 ∨ j = 1 by omega) with rfl | rfl <;> rfl⟩, by rw [ht]; exact hS.1, by rw [ht]; exact hS.2.1⟩) hS.2.2 dX10_forgets_57 hlk
    have loop : ∀ (k i : Nat) (g : Nat → Int32) (H : Heap) (locs : List Loc) (ls : Array Slot), i + k = 384 → va_at D vwCl (a1, .inl (cI, 4, .inl g1)) H → va_at D vwCl (a2, .inl (cI, 384, .inl g)) H → va_at D vwCl (a3, .inl (cI, 2, .inl f3)) H → (∀ j : Nat, j < i → g j = -1) → r3 a1 a2 a3 s.heap H locs → lv_has ls 2 [(1, .int (nI i)), (0, .ref o)] → WW H locs (F0 m 23 ls []) := by
      intro k
      induction k with
      | zero =>
        intro i g H locs ls hi ha1 ha2 ha3 hg hS hl
        have hi : i = 384 := by omega
        subst hi
        refine (hWW _ _ _).mpr ?_
        refine lv_iload_n hx hb dX10_forgets_23 rfl (lv_at hl 0 rfl) ?_
        refine lv_sipush (v := 384) hx hb dX10_forgets_24 (by decide) ?_
        refine lv_icmp_ge (tgt := 43) hx hb dX10_forgets_27 (by decide) (fun _ => ?_) (fun q => absurd (by decide) q)
        exact (hWW _ _ _).mp (k3 g H locs ls ha1 ha2 ha3 hg hS (lv_sub hl [1] rfl))
      | succ k ih =>
        intro i g H locs ls hi ha1 ha2 ha3 hg hS hl
        have hlt : i < 384 := by omega
        refine (hWW _ _ _).mpr ?_
        refine lv_iload_n hx hb dX10_forgets_23 rfl (lv_at hl 0 rfl) ?_
        refine lv_sipush (v := 384) hx hb dX10_forgets_24 (by decide) ?_
        refine lv_icmp_ge (tgt := 43) hx hb dX10_forgets_27 (by decide) (fun q => absurd q (nI_ge (b := 384) hlt (by decide))) (fun _ => ?_)
        refine lv_aload_n hx hb dX10_forgets_30 rfl (lv_at hl 1 rfl) ?_
        refine va_get (D := D) (ci := 9) (v := .ref a2) (C := RX10) (T := TX10) (N := 36) hx hb hts in10 hown hK (va_one (hat0 hS)) 0 rfl rfl 16 (by decide) (hts (.fieldLink RX10 44 "RiverModelModel" "seen" "[I") (List.mem_of_getElem? (i := 2) rfl)) (fun _ h9 => h9) h16 dX10_forgets_31 ?_
        refine lv_iload_n hx hb dX10_forgets_34 rfl (lv_at hl 0 rfl) ?_
        refine lv_iconst (v := -1) hx hb dX10_forgets_35 (by decide) ?_
        refine nw_iast hx hb hK ha2 (vp_in_nI hlt (by decide)) dX10_forgets_36 (fun H1 ha2 hz1 ho1 => ?_)
        rw [nI_clamp (by omega)] at ha2
        have hS := hS.put hz1 ho1 (k := (nI i).toNatClampNeg) (Or.inr (Or.inl rfl))
        replace ha1 := ha1.kept (ho1 a1 n2.1)
        replace ha3 := ha3.kept (ho1 a3 n2.2.2.symm)
        refine lv_iinc (v := nI (i + 1)) (lv' := [(1, .int (nI (i + 1))), (0, .ref o)]) hx hb dX10_forgets_37 hl (k := 0) rfl (by rw [nI_succ]; rfl) (by decide) rfl (fun ls hl => ?_)
        refine lv_goto (tgt := 23) hx hb dX10_forgets_40 (by decide) ?_
        refine (hWW _ _ _).mp (ih (i + 1) _ H1 _ ls (by omega) ha1 ha2 ha3 (fun j hj => ?_) hS hl)
        unfold upd
        split
        · rfl
        · exact hg j (by omega)
    exact loop 384 0 f2 H locs ls (by omega) ha1 ha2 ha3 (fun j hj => absurd hj (Nat.not_lt_zero j)) hS hl
  have loop : ∀ (k i : Nat) (g : Nat → Int32) (H : Heap) (locs : List Loc) (ls : Array Slot), i + k = 4 → va_at D vwCl (a1, .inl (cI, 4, .inl g)) H → va_at D vwCl (a2, .inl (cI, 384, .inl f2)) H → va_at D vwCl (a3, .inl (cI, 2, .inl f3)) H → (∀ j : Nat, j < i → g j = -4) → r3 a1 a2 a3 s.heap H locs → lv_has ls 2 [(1, .int (nI i)), (0, .ref o)] → WW H locs (F0 m 2 ls []) := by
    intro k
    induction k with
    | zero =>
      intro i g H locs ls hi ha1 ha2 ha3 hg hS hl
      have hi : i = 4 := by omega
      subst hi
      refine (hWW _ _ _).mpr ?_
      refine lv_iload_n hx hb dX10_forgets_2 rfl (lv_at hl 0 rfl) ?_
      refine lv_iconst (v := 4) hx hb dX10_forgets_3 (by decide) ?_
      refine lv_icmp_ge (tgt := 21) hx hb dX10_forgets_4 (by decide) (fun _ => ?_) (fun q => absurd (by decide) q)
      exact (hWW _ _ _).mp (k2 g H locs ls ha1 ha2 ha3 hg hS (lv_sub hl [1] rfl))
    | succ k ih =>
      intro i g H locs ls hi ha1 ha2 ha3 hg hS hl
      have hlt : i < 4 := by omega
      refine (hWW _ _ _).mpr ?_
      refine lv_iload_n hx hb dX10_forgets_2 rfl (lv_at hl 0 rfl) ?_
      refine lv_iconst (v := 4) hx hb dX10_forgets_3 (by decide) ?_
      refine lv_icmp_ge (tgt := 21) hx hb dX10_forgets_4 (by decide) (fun q => absurd q (nI_ge (b := 4) hlt (by decide))) (fun _ => ?_)
      refine lv_aload_n hx hb dX10_forgets_7 rfl (lv_at hl 1 rfl) ?_
      refine va_get (D := D) (ci := 9) (v := .ref a1) (C := RX10) (T := TX10) (N := 36) hx hb hts in10 hown hK (va_one (hat0 hS)) 0 rfl rfl 14 (by decide) (hts (.fieldLink RX10 38 "RiverModelModel" "gaugeKind" "[I") (List.mem_of_getElem? (i := 1) rfl)) (fun _ h9 => h9) h14 dX10_forgets_8 ?_
      refine lv_iload_n hx hb dX10_forgets_11 rfl (lv_at hl 0 rfl) ?_
      refine lv_bipush (v := -4) hx hb dX10_forgets_12 (by decide) ?_
      refine nw_iast hx hb hK ha1 (vp_in_nI hlt (by decide)) dX10_forgets_14 (fun H1 ha1 hz1 ho1 => ?_)
      rw [nI_clamp (by omega)] at ha1
      have hS := hS.put hz1 ho1 (k := (nI i).toNatClampNeg) (Or.inl rfl)
      replace ha2 := ha2.kept (ho1 a2 n2.1.symm)
      replace ha3 := ha3.kept (ho1 a3 n2.2.1.symm)
      refine lv_iinc (v := nI (i + 1)) (lv' := [(1, .int (nI (i + 1))), (0, .ref o)]) hx hb dX10_forgets_15 hl (k := 0) rfl (by rw [nI_succ]; rfl) (by decide) rfl (fun ls hl => ?_)
      refine lv_goto (tgt := 2) hx hb dX10_forgets_18 (by decide) ?_
      refine (hWW _ _ _).mp (ih (i + 1) _ H1 _ ls (by omega) ha1 ha2 ha3 (fun j hj => ?_) hS hl)
      unfold upd
      split
      · rfl
      · exact hg j (by omega)
  exact loop 4 0 f1 s.heap [] ls (by omega) ha1 ha2 ha3 (fun j hj => absurd hj (Nat.not_lt_zero j)) hS hl
