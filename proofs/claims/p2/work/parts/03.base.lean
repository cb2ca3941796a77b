/-! typed heaps: an address has a kind (0: none of ours); every cell of a kind is as the kind says. Own rows. -/
def tvIsNest : Cond → Bool
  | .methodLinkNest _ _ _ _ => true
  | _ => false
def tvN : List Cond := [.methodLinkNest RX9 9 yX7_init RX9, .methodLinkNest RX9 18 yX4_init RX9, .methodLinkNest RX9 52 yX0_init RX9, .methodLinkNest RX9 80 yX3_init RX9, .methodLinkNest RX9 87 yX8_init RX9, .methodLinkNest RX5 48 yX0_init RX9, .methodLinkNest RX7 68 yX9_isNoStore RX9, .methodLinkNest RX7 74 yX9_isOutside RX9, .methodLinkNest RX4 43 yX9_isNoItem RX9, .methodLinkNest RX4 47 yX9_isOutside RX9, .methodLinkNest RX4 59 yX9_isNoStore RX9, .methodLinkNest RX6 24 yX9_isOutside RX9, .methodLinkNest RX0 90 yX9_isNoStore RX9, .methodLinkNest RX0 121 yX9_isNoGate RX9, .methodLinkNest RX0 128 yX9_isOutside RX9, .methodLinkNest RX1 31 yX9_isNoGauge RX9, .methodLinkNest RX1 38 yX9_isNoItem RX9, .methodLinkNest RX1 47 yX9_isNoStore RX9, .methodLinkNest RX1 53 yX9_isOutside RX9, .methodLinkNest RX3 33 yX9_isNoKnob RX9, .methodLinkNest RX8 25 yX9_isNoWorld RX9, .methodLinkNest RX8 29 yX9_isOutside RX9, .methodLinkNest RX9 290 yX5_tryBlock RX9, .methodLinkNest RX5 49 yX9_isOutside RX9, .methodLinkNest RX5 71 yX9_isNoGate RX9, .methodLinkNest RX5 75 yX9_isNoStore RX9]
theorem tvN_nest : tvN.all tvIsNest = true := by decide +kernel
def tvW (U : State) : Prop := ∀ w ∈ tvN, va_Nw w U
theorem tvW.warm {s U : State} (hW : s.WarmedH U.vm) (h : tvW s) : tvW U := by
  intro w hw
  have h1 := List.all_eq_true.mp tvN_nest w hw
  have h2 := h w hw
  cases w <;> first | (exact va_Nw.warmM hW h2) | (simp [tvIsNest] at h1)
theorem tvW.same {u U : State} (h : u.vm = U.vm) (hZ : tvW u) : tvW U := by
  intro w hw
  have h1 := List.all_eq_true.mp tvN_nest w hw
  have h2 := hZ w hw
  cases w <;> first | (exact va_Nw.same rfl h h2) | (simp [tvIsNest] at h1)
abbrev tvK (cI cL cC : ClassId) : List (ClassId × FieldType) := [(cI, .int), (cL, .long), (cC, .object RX0)]
def EV (D : va_G) (cI cL cC : ClassId) (U : State) : Prop := va_K D vwCl (tvK cI cL cC) U ∧ tvW U ∧ va_AO RX0 U
theorem EV.warm {D : va_G} {cI cL cC : ClassId} {s U : State} (hW : s.WarmedH U.vm) (h : EV D cI cL cC s) : EV D cI cL cC U := ⟨va_K.moved hW.alike h.1, h.2.1.warm hW, va_AO.moved hW.alike h.2.2⟩
theorem EV.calling {D : va_G} {cI cL cC : ClassId} {U : State} {g : JFrame} {mk : MethodId} {a : Array Value} (h : EV D cI cL cC U) : EV D cI cL cC (U.calling g mk a) := ⟨va_K.moved (u := U) (U := U.calling g mk a) (Vm.Alike.refl U.vm) h.1, tvW.same (u := U) (U := U.calling g mk a) rfl h.2.1, va_AO.moved (u := U) (U := U.calling g mk a) (Vm.Alike.refl U.vm) h.2.2⟩
abbrev tFT : Type := (Nat → Nat) → Nat → va_E → Prop
def tG (D : va_G) (F : tFT) (t : Nat → Nat) (H : Heap) : Prop := ∀ a : Nat, t a ≠ 0 → ∃ e : va_E, va_at D vwCl (a, e) H ∧ F t (t a) e
def tF (t : Nat → Nat) (wr : Nat → Bool) (H0 H : Heap) (locs : List Loc) : Prop := H.size = H0.size ∧ (∀ q : Nat, wr (t q) = false → H[q]? = H0[q]?) ∧ ∀ l ∈ locs, wr (t l.base) = true
theorem tF.rf {t : Nat → Nat} {wr : Nat → Bool} {H : Heap} : tF t wr H H [] := ⟨rfl, fun _ _ => rfl, fun _ h => by cases h⟩
theorem va_one {D : va_G} {cl : List vw_C} {q : Nat × va_E} {H : Heap} (h : va_at D cl q H) : va_P D cl [q] H := fun k x hk => by
  cases k with
  | zero => cases hk; exact h
  | succ k => simp at hk
theorem tG.set {D : va_G} {F : tFT} {t : Nat → Nat} {H H1 : Heap} {a : Nat} {e : va_E} (hG : tG D F t H) (hat : va_at D vwCl (a, e) H1) (hF : F t (t a) e) (oq : ∀ q : Nat, q ≠ a → H1[q]? = H[q]?) : tG D F t H1 := fun b hb => by
  by_cases h : b = a
  · subst h; exact ⟨e, hat, hF⟩
  · obtain ⟨e', h1, h2⟩ := hG b hb
    exact ⟨e', h1.kept (oq b h), h2⟩
theorem tG.weak {D : va_G} {F F2 : tFT} {t : Nat → Nat} {H : Heap} (hG : tG D F t H) (h : ∀ k e, F t k e → F2 t k e) : tG D F2 t H := fun b hb => by
  obtain ⟨e', h1, h2⟩ := hG b hb
  exact ⟨e', h1, h _ _ h2⟩
theorem tF.put {t : Nat → Nat} {wr : Nat → Bool} {H0 H H1 : Heap} {locs : List Loc} {a k : Nat} (h : tF t wr H0 H locs) (z : H1.size = H.size) (oq : ∀ q : Nat, q ≠ a → H1[q]? = H[q]?) (hw : wr (t a) = true) : tF t wr H0 H1 (locs ++ [⟨a, k⟩]) := by
  refine ⟨z.trans h.1, fun q hq => ?_, fun l hl => ?_⟩
  · have : q ≠ a := fun e => by rw [e, hw] at hq; cases hq
    exact (oq q this).trans (h.2.1 q hq)
  · rcases List.mem_append.mp hl with h1 | h1
    · exact h.2.2 l h1
    · rw [List.mem_singleton.mp h1]; exact hw
/-- a cell of another kind stays -/
theorem va_at.keptK {D : va_G} {t : Nat → Nat} {H H1 : Heap} {a b : Nat} {e : va_E} (h : va_at D vwCl (b, e) H) (oq : ∀ q : Nat, q ≠ a → H1[q]? = H[q]?) {ka kb : Nat} (ha : t a = ka) (hb : t b = kb) (hne : (kb == ka) = false) : va_at D vwCl (b, e) H1 :=
  h.kept (oq b (fun he => by subst he; rw [← ha, ← hb] at hne; simp at hne))
/-- a cell of a kind that a callee doesn't write stays -/
theorem va_at.keptC {D : va_G} {t : Nat → Nat} {wr : Nat → Bool} {H H1 : Heap} {b : Nat} {e : va_E} (h : va_at D vwCl (b, e) H) (oq : ∀ q : Nat, wr (t q) = false → H1[q]? = H[q]?) {kb : Nat} (hb : t b = kb) (hne : wr kb = false) : va_at D vwCl (b, e) H1 :=
  h.kept (oq b (by rw [hb]; exact hne))
section TY
variable {p : Program} {l : Launch} {e : Env} {R : Room} {s : State} {m : MethodId} {args : Array Value} {below : List Frame} {meth : Method} {c : Code} {H : Heap} {locs : List Loc} {cells slots : Nat} {Q : State → Prop}
variable {cc : ByteArray} {pc : Nat} {ls : Array Slot} {rest : List Value} {D : va_G} {F F2 : tFT} {t : Nat → Nat} {wr wr2 : Nat → Bool} {a : Nat} {tys : List (ClassId × FieldType)} {H0 : Heap}
theorem lv_seti {x y : Int32} (h : x = y) (k : W p l e R s m args below meth c H locs cells slots Q (F0 m pc ls (.int y :: rest))) : W p l e R s m args below meth c H locs cells slots Q (F0 m pc ls (.int x :: rest)) := h ▸ k
theorem lv_pc {pc2 : Nat} (h : pc = pc2) (k : W p l e R s m args below meth c H locs cells slots Q (F0 m pc2 ls rest)) : W p l e R s m args below meth c H locs cells slots Q (F0 m pc ls rest) := h ▸ k
theorem lv_setl {x y : Int64} (h : x = y) (k : W p l e R s m args below meth c H locs cells slots Q (F0 m pc ls (.long y :: rest))) : W p l e R s m args below meth c H locs cells slots Q (F0 m pc ls (.long x :: rest)) := h ▸ k
theorem ty_put (hexec : p.tables.exec = Jvm.exec) (hb : c.code = cc) {own ref C : String} {T : u_T} {N ci index : Nat} {Ts : List Cond} (hts : ∀ w ∈ Ts, w.before args s = true) (hin : ∀ w ∈ u_ws C T N, w ∈ Ts) (ty0 : Nat → FieldType) (hty : ∀ k, k < N → parseFieldDescriptor (T k).2.2.1 = some (ty0 k)) (hnm : ∀ a, a < N → ∀ b, b < N → a ≠ b → (T a).2.1 ≠ (T b).2.1) (hown : s.vm.findClass own = some m.cls) (hK : va_K D vwCl tys s) (hG : tG D F t H) (hS : tF t wr H0 H locs) {fs : List Value} (hat : va_at D vwCl (a, .inr (ci, fs)) H) (hw : wr (t a) = true) (hc : vwCl[ci]? = some (C, T, N)) (k : Nat) (hk : k < N) (hlink : (Cond.fieldLink own index ref (T k).2.1 (T k).2.2.1).before args s = true) (hsame : ∀ x, s.fieldFound? (T k).1 (T k).2.1 (T k).2.2.1 = some x → s.fieldFound? ref (T k).2.1 (T k).2.2.1 = some x) (hfin : (T k).2.2.2 = false) {ty : FieldType} {v : Value} (hd : parseFieldDescriptor (T k).2.2.1 = some ty) (hn : narrow ty v = v) (hfit : fits ty v = true) (hl : k < fs.length)
    (hF : F2 t (t a) (.inr (ci, fs.set k v))) (hFF : tG D F t H → ∀ b, b ≠ a → t b ≠ 0 → ∃ e, va_at D vwCl (b, e) H ∧ F2 t (t b) e) (hdg : decode cc pc = .ok (.putfield index, 3)) (kk : ∀ (H1 : Heap) (locs1 : List Loc), tG D F2 t H1 → tF t wr H0 H1 locs1 → va_at D vwCl (a, .inr (ci, fs.set k v)) H1 → (∀ q : Nat, q ≠ a → H1[q]? = H[q]?) → W p l e R s m args below meth c H1 locs1 cells slots Q (F0 m (pc + 3) ls rest)) : W p l e R s m args below meth c H locs cells slots Q (F0 m pc ls (v :: .ref a :: rest)) := by
  have hap := va_apart (own := own) hts hin ty0 hty hnm hK hc
  obtain ⟨r, h1, cell, q1, q2, q3, q4⟩ := hat
  have hr : r = (C, T, N) := Option.some.inj (h1.symm.trans hc)
  subst hr
  obtain ⟨hSl, hfc, kC, hkC, hkind⟩ := hK.1 ci _ hc
  obtain ⟨cf, kf, fi, f, hi, hsl⟩ := hSl k hk
  have hlay := hts _ (hin _ (u_in_lay hk))
  unfold u_lay at hlay
  rw [if_neg (by rw [hfin]; decide)] at hlay
  have hst := (u_facts hfc hkC (u_lays hts hin hk) hi).1
  have h6 := u_store hfc hkC hkind hlay hi hd hn hfit
  refine W.putK hexec hb (f := f) ⟨hown, hlink, ⟨_, _, _, hsame _ hi⟩, hst⟩ (by rw [q2]; exact h6) q1 q3 (by rw [hsl]; exact k2_hasslot (q4 k hk)) rfl rfl hdg fun H' e1 e2 e3 => ?_
  rw [hsl] at e1 ⊢
  have hat' : va_at D vwCl (a, .inr (ci, fs.set k v)) H' := ⟨_, hc, t_OB.to (V := updV (vp_V fs) k v) ⟨_, e1, q2, q3, t_set q4 hap hk v⟩ (fun j _ => vp_updV_set hl v j)⟩
  refine kk H' _ (fun b hb0 => ?_) (hS.put e2 e3 hw) hat' e3
  by_cases h : b = a
  · subst h; exact ⟨_, hat', hF⟩
  · obtain ⟨e', g1, g2⟩ := hFF hG b h hb0
    exact ⟨e', g1.kept (e3 b h), g2⟩
theorem ty_iast (hexec : p.tables.exec = Jvm.exec) (hb : c.code = cc) (hK : va_K D vwCl tys s) (hG : tG D F t H) (hS : tF t wr H0 H locs) (t0 : Nat) {cA : ClassId} {n : Nat} {f : Nat → Int32} (hat : va_at D vwCl (a, .inl (cA, n, .inl f)) H) (hw : wr (t a) = true) (ht : tys[t0]? = some (cA, .int)) {i : Int32} {x : Int32} (hin : vp_in i n) (hF : F2 t (t a) (.inl (cA, n, .inl (upd f i.toNatClampNeg x)))) (hFF : tG D F t H → ∀ b, b ≠ a → t b ≠ 0 → ∃ e, va_at D vwCl (b, e) H ∧ F2 t (t b) e) (hdg : decode cc pc = .ok (.iastore, 1))
    (kk : ∀ (H1 : Heap) (locs1 : List Loc), tG D F2 t H1 → tF t wr H0 H1 locs1 → va_at D vwCl (a, .inl (cA, n, .inl (upd f i.toNatClampNeg x))) H1 → (∀ q : Nat, q ≠ a → H1[q]? = H[q]?) → W p l e R s m args below meth c H1 locs1 cells slots Q (F0 m (pc + 1) ls rest)) : W p l e R s m args below meth c H locs cells slots Q (F0 m pc ls (.int x :: .int i :: .ref a :: rest)) := by
  refine W.iast hexec hb hat ((hK.2 t0 _ ht).1 n (fun j => .int (f j))) (fun q => by cases q) (by show ¬ (i < 0 ∨ (arrV _ _ _).slots.size ≤ _); rw [arrV_size]; exact hin) rfl rfl hdg fun H1 e z oq => ?_
  have hat' : va_at D vwCl (a, .inl (cA, n, .inl (upd f i.toNatClampNeg x))) H1 := by
    show H1[a]? = some (vp_cell _ _)
    rw [e]
    rw [vp_cell_i, vp_cell_i, arrV_store]
    congr 2
    funext q
    by_cases hq : q = i.toNatClampNeg
    · subst hq
      simp [updV, upd]
    · simp [updV, upd, hq]
  refine kk H1 _ (fun b hb0 => ?_) (hS.put z oq hw) hat' oq
  by_cases h : b = a
  · subst h; exact ⟨_, hat', hF⟩
  · obtain ⟨e', g1, g2⟩ := hFF hG b h hb0
    exact ⟨e', g1.kept (oq b h), g2⟩
theorem ty_last (hexec : p.tables.exec = Jvm.exec) (hb : c.code = cc) (hK : va_K D vwCl tys s) (hG : tG D F t H) (hS : tF t wr H0 H locs) (t0 : Nat) {cA : ClassId} {n : Nat} {f : Nat → Int64} (hat : va_at D vwCl (a, .inl (cA, n, .inr (.inl f))) H) (hw : wr (t a) = true) (ht : tys[t0]? = some (cA, .long)) {i : Int32} {x : Int64} (hin : vp_in i n) (hF : F2 t (t a) (.inl (cA, n, .inr (.inl (vp_updL f i.toNatClampNeg x))))) (hFF : tG D F t H → ∀ b, b ≠ a → t b ≠ 0 → ∃ e, va_at D vwCl (b, e) H ∧ F2 t (t b) e) (hdg : decode cc pc = .ok (.lastore, 1))
    (kk : ∀ (H1 : Heap) (locs1 : List Loc), tG D F2 t H1 → tF t wr H0 H1 locs1 → va_at D vwCl (a, .inl (cA, n, .inr (.inl (vp_updL f i.toNatClampNeg x)))) H1 → (∀ q : Nat, q ≠ a → H1[q]? = H[q]?) → W p l e R s m args below meth c H1 locs1 cells slots Q (F0 m (pc + 1) ls rest)) : W p l e R s m args below meth c H locs cells slots Q (F0 m pc ls (.long x :: .int i :: .ref a :: rest)) := by
  refine W.last hexec hb hat ((hK.2 t0 _ ht).1 n (fun j => .long (f j))) (fun q => by cases q) (by show ¬ (i < 0 ∨ (arrV _ _ _).slots.size ≤ _); rw [arrV_size]; exact hin) rfl rfl hdg fun H1 e z oq => ?_
  have hat' : va_at D vwCl (a, .inl (cA, n, .inr (.inl (vp_updL f i.toNatClampNeg x)))) H1 := by
    show H1[a]? = some (vp_cell _ _)
    rw [e]
    rw [vp_cell_l, vp_cell_l, arrV_store]
    congr 2
    funext q
    by_cases hq : q = i.toNatClampNeg
    · subst hq
      simp [updV, vp_updL]
    · simp [updV, vp_updL, hq]
  refine kk H1 _ (fun b hb0 => ?_) (hS.put z oq hw) hat' oq
  by_cases h : b = a
  · subst h; exact ⟨_, hat', hF⟩
  · obtain ⟨e', g1, g2⟩ := hFF hG b h hb0
    exact ⟨e', g1.kept (oq b h), g2⟩
/-- the rest of the cells as they were -/
theorem tFF {D : va_G} {F : tFT} {t : Nat → Nat} {H : Heap} {a : Nat} : tG D F t H → ∀ b, b ≠ a → t b ≠ 0 → ∃ e, va_at D vwCl (b, e) H ∧ F t (t b) e := fun h b _ hb => h b hb
end TY
/-! contracts of methods over typed heaps -/
def tP (D : va_G) (F : tFT) (t : Nat → Nat) (cI cL cC : ClassId) (av : List Value) : Array Value → State → Prop := va_Pc av (fun U => tG D F t U.heap ∧ EV D cI cL cC U)
def tQ (D : va_G) (F2 : tFT) (t : Nat → Nat) (wr : Nat → Bool) (post : Option Value → Prop) : Array Value → State → Outcome → State → Prop := fun _ st oc u => (∃ v, oc = .returned v ∧ post v) ∧ tG D F2 t u.heap ∧ u.heap.size = st.heap.size ∧ ∀ q : Nat, wr (t q) = false → u.heap[q]? = st.heap[q]?
abbrev pI (post : Int32 → Prop) : Option Value → Prop := fun v => ∃ r : Int32, v = some (.int r) ∧ post r
abbrev pL (post : Int64 → Prop) : Option Value → Prop := fun v => ∃ r : Int64, v = some (.long r) ∧ post r
abbrev pV (post : Prop) : Option Value → Prop := fun v => v = none ∧ post
abbrev tM (l : Launch) (y : MethodName) (ws : List Cond) (fr lo : Nat) (D : va_G) (F F2 : tFT) (t : Nat → Nat) (cI cL cC : ClassId) (av : List Value) (wr : Nat → Bool) (post : Option Value → Prop) : Prop := Met l y ws ({ frames := fr, cells := 0, slots := 0, locals := lo }) (tP D F t cI cL cC av) (tQ D F2 t wr post) 0 0 (fun q => wr (t q) = true)
theorem tM.ofW {l : Launch} {y : MethodName} {ws ws' : List Cond} {fr lo : Nat} {D : va_G} {F F2 : tFT} {t : Nat → Nat} {cI cL cC : ClassId} {av : List Value} {wr : Nat → Bool} {post : Option Value → Prop} {cc : ByteArray} {maxL : Nat} {ret : Option FieldType} (hy : plainName y.cls = true) (hw : ws = Cond.code y cc maxL ret :: ws') (hle : (lg_sl av).length ≤ maxL)
    (body : ∀ (p : Program) (e : Env) (s : State) (m : MethodId) (below : List Frame) (meth : Method) (c : Code), p.tables.exec = Jvm.exec → c.code = cc → meth.sig.returnType = ret → c.maxLocals = maxL → s.vm.findClass y.cls = some m.cls → (∀ w ∈ ws, w.before av.toArray s = true) → meth.locks = false → ∀ (H : Heap) (locs : List Loc), tG D F t H → va_K D vwCl (tvK cI cL cC) s → EV D cI cL cC s → tF t wr s.heap H locs → ∀ ls : Array Slot, lv_has ls maxL (lv_args 0 av) →
      W p l e ({ frames := fr, cells := 0, slots := 0, locals := lo }) s m av.toArray below meth c H locs 0 0 (MQ below (tQ D F2 t wr post) av.toArray s 0 0 (fun q => wr (t q) = true)) (F0 m 0 ls [])) : tM l y ws fr lo D F F2 t cI cL cC av wr post := by
  refine Met.ofW (cc := cc) (maxL := maxL) (ret := ret) hy hw ?_
  intro p e s m args below meth c s₁ B hml hv
  obtain ⟨rfl, hG, hE⟩ := hv
  have hl := lv_entry av (n := maxL) hle
  rw [lg_entry_eq]
  exact body p e s m below meth c B.exec B.bytes B.returns hml (findClass_of_methodNamed B.named) (atoms_spec (ws := ws) B.pre) B.notSynchronized s.heap [] hG hE.1 hE tF.rf _ hl
section TC
variable {p : Program} {l : Launch} {e : Env} {R : Room} {s : State} {m : MethodId} {args : Array Value} {below : List Frame} {meth : Method} {c : Code} {H : Heap} {locs : List Loc} {cells slots : Nat} {Q : State → Prop}
variable {cc : ByteArray} {pc : Nat} {ls : Array Slot} {rest st0 : List Value} {D : va_G} {F F2 : tFT} {t : Nat → Nat} {wr wr2 : Nat → Bool} {a : Nat} {tys : List (ClassId × FieldType)} {H0 : Heap} {cI cL cC : ClassId} {av : List Value} {ar : Array Value}
theorem tP_blind : FrameBlind (tP D F t cI cL cC av) := fun _ _ _ _ q => ⟨q.1, q.2.1, q.2.2.calling⟩
theorem tP_S (hG : tG D F t H) (hE : EV D cI cL cC s) : PreS s H (tP D F t cI cL cC av) av := ⟨tP_blind, fun U hU hW => ⟨rfl, by rw [hU]; exact hG, hE.warm hW⟩⟩
theorem tP_V (hG : tG D F t H) (hE : EV D cI cL cC s) {C : String} {T : u_T} {N ci b : Nat} {fs As : List Value} (hat : va_at D vwCl (b, .inr (ci, fs)) H) (hc : vwCl[ci]? = some (C, T, N)) : PreV s H C b (tP D F t cI cL cC (.ref b :: As)) As :=
  ⟨tP_blind, va_recv hE.1 (va_one hat) hc (q0 := 0) rfl, fun U hU hW => ⟨rfl, by rw [hU]; exact hG, hE.warm hW⟩⟩
theorem ty_run {post : Option Value → Prop} (hr : CallRun p l e R s m args below meth c H locs cells slots 0 0 (F0 m pc ls st0) rest (tQ D F2 t wr2 post ar) (fun q => wr2 (t q) = true)) (hS : tF t wr H0 H locs) (hsub : ∀ k, wr2 k = true → wr k = true)
    (kk : ∀ (v : Option Value) (H1 : Heap) (locs1 : List Loc), post v → tG D F2 t H1 → tF t wr H0 H1 locs1 → (∀ q : Nat, wr2 (t q) = false → H1[q]? = H[q]?) → W p l e R s m args below meth c H1 locs1 cells slots Q (F0 m (pc + 3) ls (v.toList ++ rest))) : W p l e R s m args below meth c H locs cells slots Q (F0 m pc ls st0) := by
  intro T hT X
  obtain ⟨v, st₀, u, T', L, h0, X', hL, e1, ⟨⟨v', hv, hp⟩, hG, hz, hk⟩, st⟩ := hr T hT X
  cases hv
  rw [h0] at hz hk
  obtain ⟨t2, a1, b1⟩ := kk v u.heap (locs ++ L) hp hG ⟨hz.trans hS.1, fun q hq => (hk q (by cases h : wr2 (t q) with | false => rfl | true => rw [hsub _ h] at hq; cases hq)).trans (hS.2.1 q hq), fun x hx => by
      rcases List.mem_append.mp hx with h | h
      · exact hS.2.2 x h
      · exact hsub _ (hL x h)⟩ hk T' e1 X'
  exact ⟨t2, st t2 a1, b1⟩
theorem ty_calli {post : Int32 → Prop} (hr : CallRun p l e R s m args below meth c H locs cells slots 0 0 (F0 m pc ls st0) rest (tQ D F2 t wr2 (pI post) ar) (fun q => wr2 (t q) = true)) (hS : tF t wr H0 H locs) (hsub : ∀ k, wr2 k = true → wr k = true)
    (kk : ∀ (r : Int32) (H1 : Heap) (locs1 : List Loc), post r → tG D F2 t H1 → tF t wr H0 H1 locs1 → (∀ q : Nat, wr2 (t q) = false → H1[q]? = H[q]?) → W p l e R s m args below meth c H1 locs1 cells slots Q (F0 m (pc + 3) ls (.int r :: rest))) : W p l e R s m args below meth c H locs cells slots Q (F0 m pc ls st0) :=
  ty_run hr hS hsub (fun v H1 locs1 hp h1 h2 h3 => by obtain ⟨r, rfl, hp⟩ := hp; exact kk r H1 locs1 hp h1 h2 h3)
theorem ty_calll {post : Int64 → Prop} (hr : CallRun p l e R s m args below meth c H locs cells slots 0 0 (F0 m pc ls st0) rest (tQ D F2 t wr2 (pL post) ar) (fun q => wr2 (t q) = true)) (hS : tF t wr H0 H locs) (hsub : ∀ k, wr2 k = true → wr k = true)
    (kk : ∀ (r : Int64) (H1 : Heap) (locs1 : List Loc), post r → tG D F2 t H1 → tF t wr H0 H1 locs1 → (∀ q : Nat, wr2 (t q) = false → H1[q]? = H[q]?) → W p l e R s m args below meth c H1 locs1 cells slots Q (F0 m (pc + 3) ls (.long r :: rest))) : W p l e R s m args below meth c H locs cells slots Q (F0 m pc ls st0) :=
  ty_run hr hS hsub (fun v H1 locs1 hp h1 h2 h3 => by obtain ⟨r, rfl, hp⟩ := hp; exact kk r H1 locs1 hp h1 h2 h3)
theorem ty_callv {post : Prop} (hr : CallRun p l e R s m args below meth c H locs cells slots 0 0 (F0 m pc ls st0) rest (tQ D F2 t wr2 (pV post) ar) (fun q => wr2 (t q) = true)) (hS : tF t wr H0 H locs) (hsub : ∀ k, wr2 k = true → wr k = true)
    (kk : ∀ (H1 : Heap) (locs1 : List Loc), post → tG D F2 t H1 → tF t wr H0 H1 locs1 → (∀ q : Nat, wr2 (t q) = false → H1[q]? = H[q]?) → W p l e R s m args below meth c H1 locs1 cells slots Q (F0 m (pc + 3) ls rest)) : W p l e R s m args below meth c H locs cells slots Q (F0 m pc ls st0) :=
  ty_run hr hS hsub (fun v H1 locs1 hp h1 h2 h3 => by obtain ⟨rfl, hp⟩ := hp; exact kk H1 locs1 hp h1 h2 h3)
/-- a va_Run is a CallRun -/
theorem tRun {mc ms : Nat} {g : JFrame} {Qa : State → Outcome → State → Prop} {free : Addr → Prop} (h : va_Run p l e R s m args below meth c H locs cells slots mc ms g rest Qa free) : CallRun p l e R s m args below meth c H locs cells slots mc ms g rest Qa free := by
  intro T hT X
  obtain ⟨v, st₀, u, T', L, h0, X', hL, e1, -, hq, st⟩ := h T hT X
  exact ⟨v, st₀, u, T', L, h0, X', hL, e1, hq, st⟩
theorem ty_iret {post : Int32 → Prop} {v : Int32} (hexec : p.tables.exec = Jvm.exec) (hb : c.code = cc) (hr : meth.sig.returnType = some .int) (hlocks : meth.locks = false) (hG : tG D F2 t H) (hS : tF t wr s.heap H locs) (hp : post v) (hdg : decode cc pc = .ok (.ireturn, 1)) : W p l e R s m args below meth c H locs cells slots (MQ below (tQ D F2 t wr (pI post)) args s cells slots (fun q => wr (t q) = true)) (F0 m pc ls [.int v]) :=
  W.iret hexec hb hr (fun u hu _ => ⟨⟨_, rfl, v, rfl, hp⟩, by rw [hu]; exact hG, by rw [hu]; exact hS.1, by rw [hu]; exact hS.2.1⟩) hS.2.2 hdg hlocks
theorem ty_zret {post : Int32 → Prop} {v : Int32} (hexec : p.tables.exec = Jvm.exec) (hb : c.code = cc) (hr : meth.sig.returnType = some .boolean) (hlocks : meth.locks = false) (hn : narrow .boolean (.int v) = .int v) (hG : tG D F2 t H) (hS : tF t wr s.heap H locs) (hp : post v) (hdg : decode cc pc = .ok (.ireturn, 1)) : W p l e R s m args below meth c H locs cells slots (MQ below (tQ D F2 t wr (pI post)) args s cells slots (fun q => wr (t q) = true)) (F0 m pc ls [.int v]) :=
  W.zret hexec hb hr hn (fun u hu _ => ⟨⟨_, rfl, v, rfl, hp⟩, by rw [hu]; exact hG, by rw [hu]; exact hS.1, by rw [hu]; exact hS.2.1⟩) hS.2.2 hdg hlocks
theorem ty_lret {post : Int64 → Prop} {v : Int64} (hexec : p.tables.exec = Jvm.exec) (hb : c.code = cc) (hr : meth.sig.returnType = some .long) (hlocks : meth.locks = false) (hG : tG D F2 t H) (hS : tF t wr s.heap H locs) (hp : post v) (hdg : decode cc pc = .ok (.lreturn, 1)) : W p l e R s m args below meth c H locs cells slots (MQ below (tQ D F2 t wr (pL post)) args s cells slots (fun q => wr (t q) = true)) (F0 m pc ls [.long v]) :=
  W.lret hexec hb hr (fun u hu _ => ⟨⟨_, rfl, v, rfl, hp⟩, by rw [hu]; exact hG, by rw [hu]; exact hS.1, by rw [hu]; exact hS.2.1⟩) hS.2.2 hdg hlocks
theorem ty_vret {post : Prop} (hexec : p.tables.exec = Jvm.exec) (hb : c.code = cc) (hr : meth.sig.returnType = none) (hlocks : meth.locks = false) (hG : tG D F2 t H) (hS : tF t wr s.heap H locs) (hp : post) (hdg : decode cc pc = .ok (.return_, 1)) : W p l e R s m args below meth c H locs cells slots (MQ below (tQ D F2 t wr (pV post)) args s cells slots (fun q => wr (t q) = true)) (F0 m pc ls []) :=
  W.vret hexec hb hr (fun u hu _ => ⟨⟨_, rfl, rfl, hp⟩, by rw [hu]; exact hG, by rw [hu]; exact hS.1, by rw [hu]; exact hS.2.1⟩) hS.2.2 hdg hlocks
end TC
/-! Int facts out of comparisons -/
theorem q_lt {x y : Int32} (h : x < y) : x.toInt < y.toInt := Int32.lt_iff_toInt_lt.mp h
theorem q_nlt {x y : Int32} (h : ¬ x < y) : y.toInt ≤ x.toInt := by rw [Int32.lt_iff_toInt_lt] at h; omega
theorem q_le {x y : Int32} (h : x ≤ y) : x.toInt ≤ y.toInt := Int32.le_iff_toInt_le.mp h
theorem q_nle {x y : Int32} (h : ¬ x ≤ y) : y.toInt < x.toInt := by rw [Int32.le_iff_toInt_le] at h; omega
theorem q_eq {x y : Int32} (h : x = y) : x.toInt = y.toInt := by rw [h]
theorem q_ne {x y : Int32} (h : ¬ x = y) : x.toInt ≠ y.toInt := fun q => h (Int32.toInt_inj.mp q)
theorem qL_lt {x y : Int64} (h : x < y) : x.toInt < y.toInt := Int64.lt_iff_toInt_lt.mp h
theorem qL_nlt {x y : Int64} (h : ¬ x < y) : y.toInt ≤ x.toInt := by rw [Int64.lt_iff_toInt_lt] at h; omega
theorem qL_le {x y : Int64} (h : x ≤ y) : x.toInt ≤ y.toInt := Int64.le_iff_toInt_le.mp h
theorem qL_nle {x y : Int64} (h : ¬ x ≤ y) : y.toInt < x.toInt := by rw [Int64.le_iff_toInt_le] at h; omega
theorem qL_eq {x y : Int64} (h : x = y) : x.toInt = y.toInt := by rw [h]
theorem qL_ne {x y : Int64} (h : ¬ x = y) : x.toInt ≠ y.toInt := fun q => h (Int64.toInt_inj.mp q)
theorem q_i2l (x : Int32) : x.toInt64.toInt = x.toInt := Int32.toInt_toInt64 x
theorem q_rng (x : Int32) : -2147483648 ≤ x.toInt ∧ x.toInt ≤ 2147483647 := by
  have h1 := Int32.le_toInt x
  have h2 := Int32.toInt_lt x
  omega
theorem q_in {x : Int32} {n : Nat} (h0 : 0 ≤ x.toInt) (h1 : x.toInt < n) : vp_in x n := vp_in_iff.mpr ⟨h0, h1⟩
theorem q_cmp_lt {x y : Int64} (h : lg_cmp x y < 0) : x.toInt < y.toInt := qL_lt ((lg_cmp_lt x y).mp h)
theorem q_cmp_nlt {x y : Int64} (h : ¬ lg_cmp x y < 0) : y.toInt ≤ x.toInt := qL_nlt (fun q => h ((lg_cmp_lt x y).mpr q))
theorem q_cmp_le {x y : Int64} (h : lg_cmp x y ≤ 0) : x.toInt ≤ y.toInt := qL_le ((lg_cmp_le x y).mp h)
theorem q_cmp_nle {x y : Int64} (h : ¬ lg_cmp x y ≤ 0) : y.toInt < x.toInt := qL_nle (fun q => h ((lg_cmp_le x y).mpr q))
theorem q_cmp_eq {x y : Int64} (h : lg_cmp x y = 0) : x.toInt = y.toInt := qL_eq ((lg_cmp_eq x y).mp h)
theorem q_cmp_ne {x y : Int64} (h : ¬ lg_cmp x y = 0) : x.toInt ≠ y.toInt := qL_ne (fun q => h ((lg_cmp_eq x y).mpr q))
theorem q_cmp_ge {x y : Int64} (h : 0 ≤ lg_cmp x y) : y.toInt ≤ x.toInt := qL_le ((lg_cmp_ge x y).mp h)
theorem q_cmp_nge {x y : Int64} (h : ¬ 0 ≤ lg_cmp x y) : x.toInt < y.toInt := qL_nle (fun q => h ((lg_cmp_ge x y).mpr q))
theorem q_cmp_gt {x y : Int64} (h : 0 < lg_cmp x y) : y.toInt < x.toInt := qL_lt ((lg_cmp_gt x y).mp h)
theorem q_cmp_ngt {x y : Int64} (h : ¬ 0 < lg_cmp x y) : x.toInt ≤ y.toInt := qL_nlt (fun q => h ((lg_cmp_gt x y).mpr q))
theorem q_inlt {i : Int32} {n : Nat} (h : vp_in i n) : i.toNatClampNeg < n := Nat.not_le.mp fun q => h (Or.inr q)
theorem q_add {x y : Int32} (h1 : -2147483648 ≤ x.toInt + y.toInt) (h2 : x.toInt + y.toInt ≤ 2147483647) : (x + y).toInt = x.toInt + y.toInt := by
  rw [Int32.toInt_add]
  exact Int.bmod_eq_of_le (by omega) (by omega)
theorem q_sub {x y : Int32} (h1 : -2147483648 ≤ x.toInt - y.toInt) (h2 : x.toInt - y.toInt ≤ 2147483647) : (x - y).toInt = x.toInt - y.toInt := by
  rw [Int32.toInt_sub]
  exact Int.bmod_eq_of_le (by omega) (by omega)
theorem q_mul {x y : Int32} (h1 : -2147483648 ≤ x.toInt * y.toInt) (h2 : x.toInt * y.toInt ≤ 2147483647) : (x * y).toInt = x.toInt * y.toInt := by
  rw [Int32.toInt_mul]
  exact Int.bmod_eq_of_le (by omega) (by omega)
theorem q_updall {f : Nat → Int32} {n i : Nat} {x : Int32} (h : ∀ j : Nat, j < n → f j = x) : ∀ j : Nat, j < n → upd f i x j = x := fun j hj => by
  unfold upd
  split
  · rfl
  · exact h j hj
def wr0 : Nat → Bool := fun _ => false
def wrX : Nat → Bool := fun k => Nat.blt 0 k && Nat.blt k 40
def wrM : Nat → Bool := fun k => Nat.ble 40 k
def wrA : Nat → Bool := fun k => Nat.blt 0 k
theorem wrX_wrA : ∀ k, wrX k = true → wrA k = true := fun k h => by simp [wrX, wrA] at h ⊢; exact h.1
theorem wrM_wrA : ∀ k, wrM k = true → wrA k = true := fun k h => by simp [wrM, wrA] at h ⊢; omega
def fT : tFT := fun _ _ _ => True
theorem tG.toT {D : va_G} {F : tFT} {t : Nat → Nat} {H : Heap} (hG : tG D F t H) : tG D fT t H := hG.weak (fun _ _ _ => trivial)
