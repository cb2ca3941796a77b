/-! contracts with ghosts that the end names (existential): like tM, tQ. Own rows. -/
def tQx {Z : Type} (D : va_G) (F2 : Z → tFT) (t : Nat → Nat) (wr : Nat → Bool) (post : Option Value → Z → Prop) : Array Value → State → Outcome → State → Prop := fun _ st oc u => (∃ (v : Option Value) (z : Z), oc = .returned v ∧ post v z ∧ tG D (F2 z) t u.heap) ∧ u.heap.size = st.heap.size ∧ ∀ q : Nat, wr (t q) = false → u.heap[q]? = st.heap[q]?
abbrev xI {Z : Type} (post : Int32 → Z → Prop) : Option Value → Z → Prop := fun v z => ∃ r : Int32, v = some (.int r) ∧ post r z
abbrev xL {Z : Type} (post : Int64 → Z → Prop) : Option Value → Z → Prop := fun v z => ∃ r : Int64, v = some (.long r) ∧ post r z
abbrev xV {Z : Type} (post : Z → Prop) : Option Value → Z → Prop := fun v z => v = none ∧ post z
abbrev tMx {Z : Type} (l : Launch) (y : MethodName) (ws : List Cond) (fr lo : Nat) (D : va_G) (F : tFT) (F2 : Z → tFT) (t : Nat → Nat) (cI cL cC : ClassId) (av : List Value) (wr : Nat → Bool) (post : Option Value → Z → Prop) : Prop := Met l y ws ({ frames := fr, cells := 0, slots := 0, locals := lo }) (tP D F t cI cL cC av) (tQx D F2 t wr post) 0 0 (fun q => wr (t q) = true)
theorem tMx.ofW {Z : Type} {l : Launch} {y : MethodName} {ws ws' : List Cond} {fr lo : Nat} {D : va_G} {F : tFT} {F2 : Z → tFT} {t : Nat → Nat} {cI cL cC : ClassId} {av : List Value} {wr : Nat → Bool} {post : Option Value → Z → Prop} {cc : ByteArray} {maxL : Nat} {ret : Option FieldType} (hy : plainName y.cls = true) (hw : ws = Cond.code y cc maxL ret :: ws') (hle : (lg_sl av).length ≤ maxL)
    (body : ∀ (p : Program) (e : Env) (s : State) (m : MethodId) (below : List Frame) (meth : Method) (c : Code), p.tables.exec = Jvm.exec → c.code = cc → meth.sig.returnType = ret → c.maxLocals = maxL → s.vm.findClass y.cls = some m.cls → (∀ w ∈ ws, w.before av.toArray s = true) → meth.locks = false → ∀ (H : Heap) (locs : List Loc), tG D F t H → va_K D vwCl (tvK cI cL cC) s → EV D cI cL cC s → tF t wr s.heap H locs → ∀ ls : Array Slot, lv_has ls maxL (lv_args 0 av) →
      W p l e ({ frames := fr, cells := 0, slots := 0, locals := lo }) s m av.toArray below meth c H locs 0 0 (MQ below (tQx D F2 t wr post) av.toArray s 0 0 (fun q => wr (t q) = true)) (F0 m 0 ls [])) : tMx l y ws fr lo D F F2 t cI cL cC av wr post := by
  refine Met.ofW (cc := cc) (maxL := maxL) (ret := ret) hy hw ?_
  intro p e s m args below meth c s₁ B hml hv
  obtain ⟨rfl, hG, hE⟩ := hv
  have hl := lv_entry av (n := maxL) hle
  rw [lg_entry_eq]
  exact body p e s m below meth c B.exec B.bytes B.returns hml (findClass_of_methodNamed B.named) (atoms_spec (ws := ws) B.pre) B.notSynchronized s.heap [] hG hE.1 hE tF.rf _ hl
section TX
variable {Z : Type} {p : Program} {l : Launch} {e : Env} {R : Room} {s : State} {m : MethodId} {args : Array Value} {below : List Frame} {meth : Method} {c : Code} {H : Heap} {locs : List Loc} {cells slots : Nat} {Q : State → Prop}
variable {cc : ByteArray} {pc : Nat} {ls : Array Slot} {rest st0 : List Value} {D : va_G} {F2 : Z → tFT} {t : Nat → Nat} {wr wr2 : Nat → Bool} {H0 : Heap} {ar : Array Value} {z : Z}
theorem tx_run {post : Option Value → Z → Prop} (hr : CallRun p l e R s m args below meth c H locs cells slots 0 0 (F0 m pc ls st0) rest (tQx D F2 t wr2 post ar) (fun q => wr2 (t q) = true)) (hS : tF t wr H0 H locs) (hsub : ∀ k, wr2 k = true → wr k = true)
    (kk : ∀ (v : Option Value) (z : Z) (H1 : Heap) (locs1 : List Loc), post v z → tG D (F2 z) t H1 → tF t wr H0 H1 locs1 → (∀ q : Nat, wr2 (t q) = false → H1[q]? = H[q]?) → W p l e R s m args below meth c H1 locs1 cells slots Q (F0 m (pc + 3) ls (v.toList ++ rest))) : W p l e R s m args below meth c H locs cells slots Q (F0 m pc ls st0) := by
  intro T hT X
  obtain ⟨v, st₀, u, T', L, h0, X', hL, e1, ⟨⟨v', z, hv, hp, hG⟩, hz, hk⟩, st⟩ := hr T hT X
  cases hv
  rw [h0] at hz hk
  obtain ⟨t2, a1, b1⟩ := kk v z u.heap (locs ++ L) hp hG ⟨hz.trans hS.1, fun q hq => (hk q (by cases h : wr2 (t q) with | false => rfl | true => rw [hsub _ h] at hq; cases hq)).trans (hS.2.1 q hq), fun x hx => by
      rcases List.mem_append.mp hx with h | h
      · exact hS.2.2 x h
      · exact hsub _ (hL x h)⟩ hk T' e1 X'
  exact ⟨t2, st t2 a1, b1⟩
theorem tx_iret {post : Int32 → Z → Prop} {v : Int32} (hexec : p.tables.exec = Jvm.exec) (hb : c.code = cc) (hr : meth.sig.returnType = some .int) (hlocks : meth.locks = false) (hG : tG D (F2 z) t H) (hS : tF t wr s.heap H locs) (hp : post v z) (hdg : decode cc pc = .ok (.ireturn, 1)) : W p l e R s m args below meth c H locs cells slots (MQ below (tQx D F2 t wr (xI post)) args s cells slots (fun q => wr (t q) = true)) (F0 m pc ls [.int v]) :=
  W.iret hexec hb hr (fun u hu _ => ⟨⟨_, z, rfl, ⟨v, rfl, hp⟩, by rw [hu]; exact hG⟩, by rw [hu]; exact hS.1, by rw [hu]; exact hS.2.1⟩) hS.2.2 hdg hlocks
theorem tx_zret {post : Int32 → Z → Prop} {v : Int32} (hexec : p.tables.exec = Jvm.exec) (hb : c.code = cc) (hr : meth.sig.returnType = some .boolean) (hlocks : meth.locks = false) (hn : narrow .boolean (.int v) = .int v) (hG : tG D (F2 z) t H) (hS : tF t wr s.heap H locs) (hp : post v z) (hdg : decode cc pc = .ok (.ireturn, 1)) : W p l e R s m args below meth c H locs cells slots (MQ below (tQx D F2 t wr (xI post)) args s cells slots (fun q => wr (t q) = true)) (F0 m pc ls [.int v]) :=
  W.zret hexec hb hr hn (fun u hu _ => ⟨⟨_, z, rfl, ⟨v, rfl, hp⟩, by rw [hu]; exact hG⟩, by rw [hu]; exact hS.1, by rw [hu]; exact hS.2.1⟩) hS.2.2 hdg hlocks
theorem tx_lret {post : Int64 → Z → Prop} {v : Int64} (hexec : p.tables.exec = Jvm.exec) (hb : c.code = cc) (hr : meth.sig.returnType = some .long) (hlocks : meth.locks = false) (hG : tG D (F2 z) t H) (hS : tF t wr s.heap H locs) (hp : post v z) (hdg : decode cc pc = .ok (.lreturn, 1)) : W p l e R s m args below meth c H locs cells slots (MQ below (tQx D F2 t wr (xL post)) args s cells slots (fun q => wr (t q) = true)) (F0 m pc ls [.long v]) :=
  W.lret hexec hb hr (fun u hu _ => ⟨⟨_, z, rfl, ⟨v, rfl, hp⟩, by rw [hu]; exact hG⟩, by rw [hu]; exact hS.1, by rw [hu]; exact hS.2.1⟩) hS.2.2 hdg hlocks
theorem tx_vret {post : Z → Prop} (hexec : p.tables.exec = Jvm.exec) (hb : c.code = cc) (hr : meth.sig.returnType = none) (hlocks : meth.locks = false) (hG : tG D (F2 z) t H) (hS : tF t wr s.heap H locs) (hp : post z) (hdg : decode cc pc = .ok (.return_, 1)) : W p l e R s m args below meth c H locs cells slots (MQ below (tQx D F2 t wr (xV post)) args s cells slots (fun q => wr (t q) = true)) (F0 m pc ls []) :=
  W.vret hexec hb hr (fun u hu _ => ⟨⟨_, z, rfl, ⟨rfl, hp⟩, by rw [hu]; exact hG⟩, by rw [hu]; exact hS.1, by rw [hu]; exact hS.2.1⟩) hS.2.2 hdg hlocks
end TX
