/-! roles change: THE MODEL and the draft. Own rows. -/
def pinF (F : tFT) (k : Nat) (e0 : va_E) : tFT := fun t k' e => (k' = k ∧ e = e0) ∨ (k' ≠ k ∧ F t k' e)
theorem tG.pinsg {D : va_G} {F F2 : tFT} {t0 : Nat → Nat} {sg : Nat → Nat} {H : Heap} {e0 : va_E} (hG : tG D (pinF F 1 e0) t0 H) (s0 : sg 0 = 0) (s1 : sg 1 = 1) (h1 : F2 (fun q => sg (t0 q)) 1 e0) (hc : ∀ {k : Nat} {e : va_E}, k ≠ 1 → sg k ≠ 0 → F t0 k e → F2 (fun q => sg (t0 q)) (sg k) e) : tG D F2 (fun q => sg (t0 q)) H := fun a ha => by
  have h0 : t0 a ≠ 0 := fun q => ha (by show sg (t0 a) = 0; rw [q]; exact s0)
  obtain ⟨e, g1, g2⟩ := hG a h0
  rcases g2 with ⟨q1, q2⟩ | ⟨q1, q2⟩
  · subst q2
    exact ⟨e, g1, by show F2 _ (sg (t0 a)) e; rw [q1, s1]; exact h1⟩
  · exact ⟨e, g1, hc q1 ha q2⟩
theorem tF.re {t t0 : Nat → Nat} {wr : Nat → Bool} {H0 H : Heap} {locs : List Loc} (h : tF t0 wr H0 H locs) (hw : ∀ q : Nat, wr (t q) = wr (t0 q)) : tF t wr H0 H locs := ⟨h.1, fun q hq => h.2.1 q (by rw [← hw q]; exact hq), fun l hl => by rw [hw]; exact h.2.2 l hl⟩
/-- a method that leaves another table of kinds t -/
theorem tMs.ofW {l : Launch} {y : MethodName} {ws ws' : List Cond} {fr lo : Nat} {D : va_G} {F F2 : tFT} {t0 t : Nat → Nat} {cI cL cC : ClassId} {av : List Value} {wr : Nat → Bool} {post : Option Value → Prop} {cc : ByteArray} {maxL : Nat} {ret : Option FieldType} (hy : plainName y.cls = true) (hw : ws = Cond.code y cc maxL ret :: ws') (hle : (lg_sl av).length ≤ maxL)
    (body : ∀ (p : Program) (e : Env) (s : State) (m : MethodId) (below : List Frame) (meth : Method) (c : Code), p.tables.exec = Jvm.exec → c.code = cc → meth.sig.returnType = ret → c.maxLocals = maxL → s.vm.findClass y.cls = some m.cls → (∀ w ∈ ws, w.before av.toArray s = true) → meth.locks = false → ∀ (H : Heap) (locs : List Loc), tG D F t0 H → va_K D vwCl (tvK cI cL cC) s → EV D cI cL cC s → tF t0 wr s.heap H locs → ∀ ls : Array Slot, lv_has ls maxL (lv_args 0 av) →
      W p l e ({ frames := fr, cells := 0, slots := 0, locals := lo }) s m av.toArray below meth c H locs 0 0 (MQ below (tQ D F2 t wr post) av.toArray s 0 0 (fun q => wr (t q) = true)) (F0 m 0 ls [])) : Met l y ws ({ frames := fr, cells := 0, slots := 0, locals := lo }) (tP D F t0 cI cL cC av) (tQ D F2 t wr post) 0 0 (fun q => wr (t q) = true) := by
  refine Met.ofW (cc := cc) (maxL := maxL) (ret := ret) hy hw ?_
  intro p e s m args below meth c s₁ B hml hv
  obtain ⟨rfl, hG, hE⟩ := hv
  have hl := lv_entry av (n := maxL) hle
  rw [lg_entry_eq]
  exact body p e s m below meth c B.exec B.bytes B.returns hml (findClass_of_methodNamed B.named) (atoms_spec (ws := ws) B.pre) B.notSynchronized s.heap [] hG hE.1 hE tF.rf _ hl
/-- ends whose ghosts also say by which table of kinds -/
def tQz {Z : Type} (D : va_G) (F2 : Z → tFT) (tz : Z → Nat → Nat) (t : Nat → Nat) (wr : Nat → Bool) (post : Option Value → Z → Prop) : Array Value → State → Outcome → State → Prop := fun _ st oc u => (∃ (v : Option Value) (z : Z), oc = .returned v ∧ post v z ∧ tG D (F2 z) (tz z) u.heap) ∧ u.heap.size = st.heap.size ∧ ∀ q : Nat, wr (t q) = false → u.heap[q]? = st.heap[q]?
abbrev tMz {Z : Type} (l : Launch) (y : MethodName) (ws : List Cond) (fr lo : Nat) (D : va_G) (F : tFT) (F2 : Z → tFT) (tz : Z → Nat → Nat) (t : Nat → Nat) (cI cL cC : ClassId) (av : List Value) (wr : Nat → Bool) (post : Option Value → Z → Prop) : Prop := Met l y ws ({ frames := fr, cells := 0, slots := 0, locals := lo }) (tP D F t cI cL cC av) (tQz D F2 tz t wr post) 0 0 (fun q => wr (t q) = true)
theorem tMz.ofW {Z : Type} {l : Launch} {y : MethodName} {ws ws' : List Cond} {fr lo : Nat} {D : va_G} {F : tFT} {F2 : Z → tFT} {tz : Z → Nat → Nat} {t : Nat → Nat} {cI cL cC : ClassId} {av : List Value} {wr : Nat → Bool} {post : Option Value → Z → Prop} {cc : ByteArray} {maxL : Nat} {ret : Option FieldType} (hy : plainName y.cls = true) (hw : ws = Cond.code y cc maxL ret :: ws') (hle : (lg_sl av).length ≤ maxL)
    (body : ∀ (p : Program) (e : Env) (s : State) (m : MethodId) (below : List Frame) (meth : Method) (c : Code), p.tables.exec = Jvm.exec → c.code = cc → meth.sig.returnType = ret → c.maxLocals = maxL → s.vm.findClass y.cls = some m.cls → (∀ w ∈ ws, w.before av.toArray s = true) → meth.locks = false → ∀ (H : Heap) (locs : List Loc), tG D F t H → va_K D vwCl (tvK cI cL cC) s → EV D cI cL cC s → tF t wr s.heap H locs → ∀ ls : Array Slot, lv_has ls maxL (lv_args 0 av) →
      W p l e ({ frames := fr, cells := 0, slots := 0, locals := lo }) s m av.toArray below meth c H locs 0 0 (MQ below (tQz D F2 tz t wr post) av.toArray s 0 0 (fun q => wr (t q) = true)) (F0 m 0 ls [])) : tMz l y ws fr lo D F F2 tz t cI cL cC av wr post := by
  refine Met.ofW (cc := cc) (maxL := maxL) (ret := ret) hy hw ?_
  intro p e s m args below meth c s₁ B hml hv
  obtain ⟨rfl, hG, hE⟩ := hv
  have hl := lv_entry av (n := maxL) hle
  rw [lg_entry_eq]
  exact body p e s m below meth c B.exec B.bytes B.returns hml (findClass_of_methodNamed B.named) (atoms_spec (ws := ws) B.pre) B.notSynchronized s.heap [] hG hE.1 hE tF.rf _ hl
theorem tz_iret {Z : Type} {p : Program} {l : Launch} {e : Env} {R : Room} {s : State} {m : MethodId} {args : Array Value} {below : List Frame} {meth : Method} {c : Code} {H : Heap} {locs : List Loc} {cells slots : Nat} {cc : ByteArray} {pc : Nat} {ls : Array Slot} {D : va_G} {F2 : Z → tFT} {tz : Z → Nat → Nat} {t : Nat → Nat} {wr : Nat → Bool} {z : Z} {post : Int32 → Z → Prop} {v : Int32} (hexec : p.tables.exec = Jvm.exec) (hb : c.code = cc) (hr : meth.sig.returnType = some .int) (hlocks : meth.locks = false) (hG : tG D (F2 z) (tz z) H) (hS : tF t wr s.heap H locs) (hp : post v z) (hdg : decode cc pc = .ok (.ireturn, 1)) : W p l e R s m args below meth c H locs cells slots (MQ below (tQz D F2 tz t wr (xI post)) args s cells slots (fun q => wr (t q) = true)) (F0 m pc ls [.int v]) :=
  W.iret hexec hb hr (fun u hu _ => ⟨⟨_, z, rfl, ⟨v, rfl, hp⟩, by rw [hu]; exact hG⟩, by rw [hu]; exact hS.1, by rw [hu]; exact hS.2.1⟩) hS.2.2 hdg hlocks
/-! what is alike on both sides: MODELS up to numbers, GAUGES, SWAPS. Own rows (phase 2). -/
def simI (k f k' f' : Int32) : Prop := (k.toInt = 115 ↔ k'.toInt = 115) ∧ (k.toInt = 115 → f.toInt = f'.toInt) ∧ (k.toInt = 103 ↔ k'.toInt = 103)
theorem simI.rf {k f : Int32} : simI k f k f := ⟨Iff.rfl, fun _ => rfl, Iff.rfl⟩
theorem simI.sy {k f k' f' : Int32} (h : simI k f k' f') : simI k' f' k f := ⟨h.1.symm, fun q => (h.2.1 (h.1.mpr q)).symm, h.2.2.symm⟩
theorem simI.tr {k f k' f' k2 f2 : Int32} (h : simI k f k' f') (g : simI k' f' k2 f2) : simI k f k2 f2 := ⟨h.1.trans g.1, fun q => (h.2.1 q).trans (g.2.1 (h.1.mp q)), h.2.2.trans g.2.2⟩
def simM (K F K' F' : Int → Int32) (n : Int) : Prop := ∀ i : Int, 0 ≤ i → i < n → simI (K i) (F i) (K' i) (F' i)
theorem simM.rf {K F : Int → Int32} {n : Int} : simM K F K F n := fun _ _ _ => simI.rf
theorem simM.sy {K F K' F' : Int → Int32} {n : Int} (h : simM K F K' F' n) : simM K' F' K F n := fun i h0 h1 => (h i h0 h1).sy
theorem simM.tr {K F K' F' K2 F2 : Int → Int32} {n : Int} (h : simM K F K' F' n) (g : simM K' F' K2 F2 n) : simM K F K2 F2 n := fun i h0 h1 => (h i h0 h1).tr (g i h0 h1)
theorem simM.eq {K F K' F' : Int → Int32} {n : Int} (hK : ∀ i : Int, 0 ≤ i → i < n → K i = K' i) (hF : ∀ i : Int, 0 ≤ i → i < n → F i = F' i) : simM K F K' F' n := fun i h0 h1 => by
  rw [hK i h0 h1, hF i h0 h1]
  exact simI.rf
def kR (K : Nat → Int32) (b : Int) : Int → Int32 := fun i => K (b + i).toNat
/-- STORES and their places -/
theorem mdW.sim {L Q L' Q' : Nat → Int32} {m : Int} (h : mdW L Q m) (s : simM (kL L') (fL L') (kL L) (fL L) m) (hQ : ∀ j : Nat, j < 16 → Q' j = Q j) : mdW L' Q' m := by
  refine ⟨fun x hx => ?_, fun i h0 h1 hk => ?_⟩
  · obtain ⟨x0, x1, x2⟩ := hx
    have e := hQ x.toNat (by omega)
    rw [e] at x2 ⊢
    obtain ⟨g0, g1, g2, g3⟩ := h.1 x ⟨x0, x1, x2⟩
    have q := s _ g0 g1
    have q1 : (kL L' (Q x.toNat).toInt).toInt = 115 := q.1.mpr g2
    exact ⟨g0, g1, q1, (q.2.1 q1).trans g3⟩
  · have q := s i h0 h1
    have g := h.2 i h0 h1 (q.1.mp hk)
    have e : (L' (6 * i + 1).toNat).toInt = (L (6 * i + 1).toNat).toInt := q.2.1 hk
    rw [e, hQ _ (by omega)]
    exact g
def relM (mL mQ : Nat → Int32) (mm : Int32) (K F : Nat → Int32) (gI : Int32) : Prop := mm.toInt = gI.toInt ∧ 0 ≤ mm.toInt ∧ mm.toInt ≤ 40 ∧ mdW mL mQ mm.toInt ∧ simM (kL mL) (fL mL) (kR K 0) (kR F 0) mm.toInt
theorem relM.ahead {mL mQ K F : Nat → Int32} {mm gI : Int32} (h : relM mL mQ mm K F gI) {x : Int32} {i : Int} (hi : i ≤ mm.toInt) : stA mQ x.toInt i ↔ hasS K F 0 i x := by
  obtain ⟨_, _, _, hd, hs⟩ := h
  constructor
  · intro ⟨q, hlt⟩
    obtain ⟨g0, g1, g2, g3⟩ := hd.1 _ q
    have w := hs _ g0 g1
    exact ⟨_, g0, hlt, w.1.mp g2, Int32.toInt_inj.mp ((w.2.1 g2).symm.trans g3)⟩
  · intro ⟨j, j0, j1, jk, jf⟩
    have w := hs j j0 (by omega)
    have k1 : (kL mL j).toInt = 115 := w.1.mpr jk
    have e : (mL (6 * j + 1).toNat).toInt = x.toInt := (w.2.1 k1).trans (by show (F (0 + j).toNat).toInt = _; rw [jf])
    have g := hd.2 j j0 (by omega) k1
    rw [e] at g
    exact ⟨⟨g.1, g.2.1, by omega⟩, by omega⟩
theorem relM.has {mL mQ K F : Nat → Int32} {mm gI : Int32} (h : relM mL mQ mm K F gI) {x : Int32} : hsQ mQ x.toInt ↔ hasS K F 0 gI.toInt x := by
  rw [← h.1, ← h.ahead (Int.le_refl _)]
  exact ⟨fun q => ⟨q, (h.2.2.2.1.1 _ q).2.1⟩, fun q => q.1⟩
/-- the NAMES ahead, as bits -/
def nmE (K F : Nat → Int32) (b n : Int) (w : Int32) : Prop := ∀ g : Int32, 0 ≤ g.toInt → g.toInt ≤ 15 → ((bitI w g).toInt = 1 ↔ hasS K F b n g)
theorem nmE.zero {K F : Nat → Int32} {b : Int} : nmE K F b 0 0 := fun g g0 g1 => ⟨fun q => absurd q (bit_0 g0 g1), fun ⟨j, h0, h1, _, _⟩ => by omega⟩
theorem nmE.step {K F : Nat → Int32} {b n n' : Int} {w : Int32} (h : nmE K F b n w) (hk : (K (b + n).toNat).toInt ≠ 115) (e : n' = n + 1) : nmE K F b n' w := fun g g0 g1 => by
  subst e
  refine (h g g0 g1).trans ⟨fun q => q.mono (by omega), fun ⟨j, h0, h1, h2, h3⟩ => ?_⟩
  by_cases q : j = n
  · subst q; exact absurd h2 hk
  · exact ⟨j, h0, by omega, h2, h3⟩
theorem nmE.stepS {K F : Nat → Int32} {b n n' : Int} {w f : Int32} (h : nmE K F b n w) (hn : 0 ≤ n) (f0 : 0 ≤ f.toInt) (f1 : f.toInt ≤ 15) (hk : (K (b + n).toNat).toInt = 115) (hf : F (b + n).toNat = f) (e : n' = n + 1) : nmE K F b n' (orB w f) := fun g g0 g1 => by
  subst e
  rw [bit_or f0 f1 g0 g1, h g g0 g1]
  constructor
  · rintro (q | q)
    · exact q.mono (by omega)
    · exact ⟨n, hn, by omega, hk, by rw [hf, q]⟩
  · rintro ⟨j, h0, h1, h2, h3⟩
    by_cases q : j = n
    · subst q; exact Or.inr (by rw [← hf, h3])
    · exact Or.inl ⟨j, h0, by omega, h2, h3⟩
/-- a SWAP is taken: as the reference asks -/
def swY (B : Int → Int) (n : Int) (w k0 f0 : Int32) : Prop := ∃ k f s a b c : Int32, itemAt B 0 k f s a b c n ∧ okIt w 0 k f s a b c ∧ (k.toInt = 115 ↔ k0.toInt = 115) ∧ (k.toInt = 103 ↔ k0.toInt = 103) ∧ (k0.toInt = 115 → f.toInt = f0.toInt)
/-- .. and as the class asks -/
def swC (B : Int → Int) (n : Int) (L Q : Nat → Int32) (i : Int) : Prop := ∃ R : Nat → Int32, itemAt B 0 (R 0) (R 1) (R 2) (R 3) (R 4) (R 5) n ∧ mayR L Q R i
theorem itemAt.s115 {B : Int → Int} {p e : Int} {k f s a b c : Int32} (h : itemAt B p k f s a b c e) (hk : k.toInt = 115) : s.toInt = -4 := by
  obtain ⟨h1, _, q, q', hn, _⟩ := h
  have e1 : shp (B p) = 12 := by rw [← h1, hk]; rfl
  rcases hn.2.2 with ⟨_, h2, _⟩ | ⟨h2, _⟩
  · exact h2
  · omega
theorem swap_one {B : Int → Int} {n i : Int} {mL mQ K F R : Nat → Int32} {mm gI w : Int32} (h : relM mL mQ mm K F gI) (i0 : 0 ≤ i) (i1 : i < mm.toInt) (hw : nmE K F 0 i w) (hi : itemAt B 0 (R 0) (R 1) (R 2) (R 3) (R 4) (R 5) n) : mayR mL mQ R i ↔ (okIt w 0 (R 0) (R 1) (R 2) (R 3) (R 4) (R 5) ∧ ((R 0).toInt = 115 ↔ (K (0 + i).toNat).toInt = 115) ∧ ((R 0).toInt = 103 ↔ (K (0 + i).toNat).toInt = 103) ∧ ((K (0 + i).toNat).toInt = 115 → (R 1).toInt = (F (0 + i).toNat).toInt)) := by
  have sm : simI (mL (6 * i).toNat) (mL (6 * i + 1).toNat) (K (0 + i).toNat) (F (0 + i).toNat) := h.2.2.2.2 i i0 i1
  obtain ⟨f0, f1, fs⟩ := hi.nm
  by_cases hst : (mL (6 * i).toNat).toInt = 115 ∨ (R 0).toInt = 115
  · constructor
    · intro ⟨hwl, hm, _⟩
      obtain ⟨e1, e2⟩ := hm hst
      have r0 : (R 0).toInt = 115 := by omega
      have l0 : (mL (6 * i).toNat).toInt = 115 := by omega
      refine ⟨⟨hwl, fun _ q => ?_, fun q => absurd r0 q, Or.inl (by have := hi.s115 r0; omega), fun q => by omega⟩, ⟨fun _ => sm.1.mp l0, fun _ => r0⟩, ⟨fun q => by omega, fun q => by have := sm.2.2.mpr q; omega⟩, fun _ => e2.symm.trans (sm.2.1 l0)⟩
      have hs := (h.ahead (x := R 1) (i := i) (by omega)).mpr ((hw _ f0 f1).mp q)
      have g := h.2.2.2.1.2 i i0 i1 l0
      rw [e2] at g
      have := hs.2
      omega
    · intro ⟨hok, hk, hg, hf⟩
      have l0 : (mL (6 * i).toNat).toInt = 115 := by
        rcases hst with q | q
        · exact q
        · exact sm.1.mpr (hk.mp q)
      have r0 : (R 0).toInt = 115 := hk.mpr (sm.1.mp l0)
      exact ⟨hok.1, fun _ => ⟨by omega, (sm.2.1 l0).trans (hf (sm.1.mp l0)).symm⟩, fun q => absurd hst q⟩
  · have l0 : (mL (6 * i).toNat).toInt ≠ 115 := fun q => hst (Or.inl q)
    have r0 : (R 0).toInt ≠ 115 := fun q => hst (Or.inr q)
    have k0 : (K (0 + i).toNat).toInt ≠ 115 := fun q => l0 (sm.1.mpr q)
    have ha : ∀ x : Int32, 0 ≤ x.toInt → x.toInt ≤ 15 → (stA mQ x.toInt i ↔ (bitI w x).toInt = 1) := fun x x0 x1 => (h.ahead (x := x) (i := i) (by omega)).trans (hw x x0 x1).symm
    constructor
    · intro ⟨hwl, _, hm⟩
      obtain ⟨⟨n1, n2⟩, hg⟩ := hm hst
      refine ⟨⟨hwl, fun q => absurd q r0, fun _ => (ha _ f0 f1).mp n1, ?_, fun _ => by omega⟩, ⟨fun q => absurd q r0, fun q => absurd q k0⟩, hg.symm.trans sm.2.2, fun q => absurd q k0⟩
      rcases n2 with q | ⟨q1, q2⟩
      · exact Or.inl (by omega)
      · rcases fs with s4 | ⟨s0, s1⟩
        · exact Or.inl (by omega)
        · exact Or.inr ⟨q1, (ha _ s0 s1).mp q2⟩
    · intro ⟨hok, hk, hg, hf⟩
      refine ⟨hok.1, fun q => absurd q hst, fun _ => ⟨⟨(ha _ f0 f1).mpr (hok.2.2.1 r0), ?_⟩, sm.2.2.trans hg.symm⟩⟩
      rcases hok.2.2.2.1 with q | ⟨q1, q2⟩
      · exact Or.inl (by rcases fs with s4 | ⟨s0, s1⟩ <;> omega)
      · rcases fs with s4 | ⟨s0, s1⟩
        · exact Or.inl s4
        · exact Or.inr ⟨q1, (ha _ s0 s1).mpr q2⟩
/-- a row of six out of six numbers -/
def row6 (k f s a b c : Int32) : Nat → Int32 := fun j => match j with | 0 => k | 1 => f | 2 => s | 3 => a | 4 => b | _ => c
theorem swap_iff {B : Int → Int} {n i : Int} {mL mQ K F : Nat → Int32} {mm gI w : Int32} (h : relM mL mQ mm K F gI) (i0 : 0 ≤ i) (i1 : i < mm.toInt) (hw : nmE K F 0 i w) : swC B n mL mQ i ↔ swY B n w (K (0 + i).toNat) (F (0 + i).toNat) := by
  constructor
  · intro ⟨R, hi, hm⟩
    exact ⟨_, _, _, _, _, _, hi, (swap_one h i0 i1 hw hi).mp hm⟩
  · intro ⟨k, f, s, a, b, c, hi, hm⟩
    exact ⟨row6 k f s a b c, hi, (swap_one (R := row6 k f s a b c) h i0 i1 hw hi).mpr hm⟩
/-! steps of each side that leave THE MODEL as it was, up to its numbers -/
def othC (gB gO mm om : Int32) (mL mQ oL oQ : Nat → Int32) : Prop := gO.toInt ≠ 0 → gB.toInt ≠ 0 ∧ om.toInt = mm.toInt ∧ (∀ j : Nat, j < 16 → oQ j = mQ j) ∧ simM (kL oL) (fL oL) (kL mL) (fL mL) mm.toInt
def othR (gb gS gI : Int32) (K F : Nat → Int32) : Prop := gS.toInt ≠ 0 → gb.toInt ≠ 0 ∧ simM (kR K 80) (kR F 80) (kR K 0) (kR F 0) gI.toInt
def smC (gB gB' mm mm' : Int32) (mL mQ mL' mQ' : Nat → Int32) : Prop := (gB'.toInt ≠ 0 ↔ gB.toInt ≠ 0) ∧ (gB.toInt ≠ 0 → mm'.toInt = mm.toInt ∧ (∀ j : Nat, j < 16 → mQ' j = mQ j) ∧ simM (kL mL') (fL mL') (kL mL) (fL mL) mm.toInt)
def smR (gb gb' gI : Int32) (K F K' F' : Nat → Int32) : Prop := (gb'.toInt ≠ 0 ↔ gb.toInt ≠ 0) ∧ (gb.toInt ≠ 0 → simM (kR K' 0) (kR F' 0) (kR K 0) (kR F 0) gI.toInt)
theorem smC.rf {gB mm : Int32} {mL mQ : Nat → Int32} : smC gB gB mm mm mL mQ mL mQ := ⟨Iff.rfl, fun _ => ⟨rfl, fun _ _ => rfl, simM.rf⟩⟩
theorem smR.rf {gb gI : Int32} {K F : Nat → Int32} : smR gb gb gI K F K F := ⟨Iff.rfl, fun _ => simM.rf⟩
def relB (gB gb mm gI : Int32) (mL mQ K F : Nat → Int32) : Prop := (gB.toInt ≠ 0 ↔ gb.toInt ≠ 0) ∧ (gB.toInt ≠ 0 → relM mL mQ mm K F gI)
theorem relB.step {gB gB' gb gb' mm mm' gI : Int32} {mL mQ mL' mQ' K F K' F' : Nat → Int32} (h : relB gB gb mm gI mL mQ K F) (hc : smC gB gB' mm mm' mL mQ mL' mQ') (hr : smR gb gb' gI K F K' F') : relB gB' gb' mm' gI mL' mQ' K' F' := by
  refine ⟨hc.1.trans (h.1.trans hr.1.symm), fun q => ?_⟩
  have q0 := hc.1.mp q
  obtain ⟨c1, c2, c3⟩ := hc.2 q0
  have r1 := hr.2 (h.1.mp q0)
  obtain ⟨e1, e2, e3, e4, e5⟩ := h.2 q0
  refine ⟨by omega, by omega, by omega, ?_, ?_⟩
  · rw [c1]; exact e4.sim c3 c2
  · rw [c1]; exact (c3.tr e5).tr (by rw [e1]; exact r1.sy)
theorem simM.kp {K F K' F' : Nat → Int32} {b n : Int} (hK : kpO K K' 40 40) (hF : kpO F F' 40 40) (hb : b = 0 ∨ b = 80) (hn : n ≤ 40) : simM (kR K' b) (kR F' b) (kR K b) (kR F b) n := simM.eq (fun i h0 h1 => hK (b + i) (by omega) (by omega)) (fun i h0 h1 => hF (b + i) (by omega) (by omega))
theorem smR.kp {gb gI : Int32} {K F K' F' : Nat → Int32} (hK : kpO K K' 40 40) (hF : kpO F F' 40 40) (hn : gI.toInt ≤ 40) : smR gb gb gI K F K' F' := ⟨Iff.rfl, fun _ => simM.kp hK hF (Or.inl rfl) hn⟩
theorem othR.kp {gb gS gI : Int32} {K F K' F' : Nat → Int32} (h : othR gb gS gI K F) (hK : kpO K K' 40 40) (hF : kpO F F' 40 40) (hn : gI.toInt ≤ 40) : othR gb gS gI K' F' := fun q => ⟨(h q).1, ((simM.kp hK hF (Or.inr rfl) hn).tr (h q).2).tr (simM.kp hK hF (Or.inl rfl) hn).sy⟩
/-! GAUGES -/
def gaB (k w i : Int32) : Prop := k.toInt < 0 ∨ 3 < k.toInt ∨ w.toInt < 0 ∨ 1 < w.toInt ∨ i.toInt < 0 ∨ (w.toInt = 0 ∧ 39 < i.toInt) ∨ (w.toInt ≠ 0 ∧ 15 < i.toInt)
def gauR (no : Prop) (V N : Nat → Int32) (k w i r : Int32) (V' N' : Nat → Int32) : Prop := (gaB k w i ∧ r.toInt = -1 ∧ V' = V ∧ N' = N) ∨ (¬ gaB k w i ∧ no ∧ r.toInt = -2 ∧ V' = V ∧ N' = N) ∨ (¬ gaB k w i ∧ ¬ no ∧ r.toInt = 0 ∧ V' = upd V k.toInt.toNat w ∧ cpf N N' (96 * k.toInt) (fun _ => -1) 96)
def eqV (V V' N N' : Nat → Int32) : Prop := (∀ j : Nat, j < 4 → V j = V' j) ∧ (∀ j : Nat, j < 384 → N j = N' j) ∧ ∀ j : Nat, j < 4 → (V j).toInt = -4 ∨ 0 ≤ (V j).toInt
theorem gauR.rel {no no2 : Prop} {V N V' N' V2 N2 V2' N2' : Nat → Int32} {k w i r r2 : Int32} (h : gauR no V N k w i r V' N') (h2 : gauR no2 V2 N2 k w i r2 V2' N2') (hno : no ↔ no2) (e : eqV V V2 N N2) : r = r2 ∧ eqV V' V2' N' N2' := by
  rcases h with ⟨a1, a2, a3, a4⟩ | ⟨a1, a0, a2, a3, a4⟩ | ⟨a1, a0, a2, a3, a4⟩ <;> rcases h2 with ⟨b1, b2, b3, b4⟩ | ⟨b1, b0, b2, b3, b4⟩ | ⟨b1, b0, b2, b3, b4⟩
  · rw [a3, a4, b3, b4]; exact ⟨Int32.toInt_inj.mp (by omega), e⟩
  · exact absurd a1 b1
  · exact absurd a1 b1
  · exact absurd b1 a1
  · rw [a3, a4, b3, b4]; exact ⟨Int32.toInt_inj.mp (by omega), e⟩
  · exact absurd (hno.mp a0) b0
  · exact absurd b1 a1
  · exact absurd (hno.mpr b0) a0
  · refine ⟨Int32.toInt_inj.mp (by omega), fun j hj => ?_, fun j hj => ?_, fun j hj => ?_⟩
    · rw [a3, b3]
      by_cases q : j = k.toInt.toNat
      · rw [q, pk_us, pk_us]
      · rw [pk_un q, pk_un q]; exact e.1 j hj
    · by_cases q : 96 * k.toInt ≤ (j : Int) ∧ (j : Int) < 96 * k.toInt + 96
      · have x1 := a4.1 ((j : Int) - 96 * k.toInt) (by omega) (by omega)
        have x2 := b4.1 ((j : Int) - 96 * k.toInt) (by omega) (by omega)
        rw [show 96 * k.toInt + ((j : Int) - 96 * k.toInt) = (j : Int) by omega] at x1 x2
        exact x1.trans x2.symm
      · have x1 := a4.2 (j : Int) (by omega) (by omega)
        have x2 := b4.2 (j : Int) (by omega) (by omega)
        exact x1.trans ((e.2.1 j hj).trans x2.symm)
    · rw [a3]
      by_cases q : j = k.toInt.toNat
      · rw [q, pk_us]; unfold gaB at a1; exact Or.inr (by omega)
      · rw [pk_un q]; exact e.2.2 j hj
/-- SEE: what it answers when a GAUGE that is not set is known by no -/
def seeB (k h v : Int32) : Prop := k.toInt < 0 ∨ 3 < k.toInt ∨ h.toInt < 0 ∨ 95 < h.toInt ∨ v.toInt < -1 ∨ 10000000 < v.toInt
def seeR (no : Prop) (N : Nat → Int32) (k h v r : Int32) (N' : Nat → Int32) : Prop := (seeB k h v ∧ r.toInt = -100 ∧ N' = N) ∨ (¬ seeB k h v ∧ no ∧ r.toInt = -102 ∧ N' = N) ∨ (¬ seeB k h v ∧ ¬ no ∧ r = N (96 * k.toInt + h.toInt).toNat ∧ N' = upd N (96 * k.toInt + h.toInt).toNat v)
theorem seeR.rel {no no2 : Prop} {V V2 N N' N2 N2' : Nat → Int32} {k h v r r2 : Int32} (a : seeR no N k h v r N') (b : seeR no2 N2 k h v r2 N2') (hno : ¬ seeB k h v → (no ↔ no2)) (e : eqV V V2 N N2) : r = r2 ∧ eqV V V2 N' N2' := by
  rcases a with ⟨a1, a2, a3⟩ | ⟨a1, a0, a2, a3⟩ | ⟨a1, a0, a2, a3⟩ <;> rcases b with ⟨b1, b2, b3⟩ | ⟨b1, b0, b2, b3⟩ | ⟨b1, b0, b2, b3⟩
  · rw [a3, b3]; exact ⟨Int32.toInt_inj.mp (by omega), e⟩
  · exact absurd a1 b1
  · exact absurd a1 b1
  · exact absurd b1 a1
  · rw [a3, b3]; exact ⟨Int32.toInt_inj.mp (by omega), e⟩
  · exact absurd ((hno a1).mp a0) b0
  · exact absurd b1 a1
  · exact absurd ((hno a1).mpr b0) a0
  · have hk : ¬ (k.toInt < 0 ∨ 3 < k.toInt ∨ h.toInt < 0 ∨ 95 < h.toInt ∨ v.toInt < -1 ∨ 10000000 < v.toInt) := a1
    refine ⟨a2.trans ((e.2.1 _ (by omega)).trans b2.symm), e.1, fun j hj => ?_, e.2.2⟩
    rw [a3, b3]
    by_cases q : j = (96 * k.toInt + h.toInt).toNat
    · rw [q, pk_us, pk_us]
    · rw [pk_un q, pk_un q]; exact e.2.1 j hj
theorem eqV.set {V V2 N N2 : Nat → Int32} (e : eqV V V2 N N2) {k : Int32} (h0 : 0 ≤ k.toInt) (h3 : k.toInt ≤ 3) : (V k.toInt.toNat).toInt = -4 ↔ (V2 k.toInt.toNat).toInt < 0 := by
  rw [← e.1 _ (by omega)]
  have := e.2.2 k.toInt.toNat (by omega)
  omega
/-! build -/
theorem rdR.mm {B : Int → Int} {n r m st gt : Int} {L Q : Nat → Int32} (h : rdR B n r L Q m st gt) : 0 ≤ m ∧ m ≤ 40 := by
  obtain ⟨j, p, ⟨h0, w, _, e, _⟩, h4, _⟩ := h
  omega
theorem rdR.rel {B : Int → Int} {n r m st gt j : Int} {mm gI : Int32} {L Q K F K' F' : Nat → Int32} (h : rdR B n r L Q m st gt) (h2 : rdN B n r j K F) (hm : mm.toInt = m) (hg : gI.toInt = j) (eK : ∀ i : Int, 0 ≤ i → i < 40 → K' (0 + i).toNat = K (40 + i).toNat) (eF : ∀ i : Int, 0 ≤ i → i < 40 → F' (0 + i).toNat = F (40 + i).toNat) : relM L Q mm K' F' gI := by
  have hm2 := h.mm
  obtain ⟨i0, p0, w0, hs0, hm0, hr0⟩ := h.stop
  obtain ⟨j1, p1, ⟨_, w1, _, e1, _, _, _, _, _, hd, hi⟩, _, _⟩ := h
  obtain ⟨hi2, p2, w2, g2, c2, j0, hs2, _, _⟩ := h2
  have ej := (hs0.uq hs2).1
  have e2 : m = j := by omega
  refine ⟨by omega, by omega, by omega, by rw [hm, e1]; exact hd, fun i h0 h1 => ?_⟩
  have q := hi.uq (K' := fun i => K (40 + i).toNat) (F' := fun i => F (40 + i).toNat) (by rw [← e1, e2]; exact hi2) (i := i.toNat) (by omega)
  have e3 : ((i.toNat : Nat) : Int) = i := by omega
  rw [e3] at q
  have a1 : kL L i = kR K' 0 i := q.1.trans (eK i h0 (by omega)).symm
  have a2 : fL L i = kR F' 0 i := q.2.trans (eF i h0 (by omega)).symm
  rw [a1, a2]
  exact simI.rf
theorem relB.new {gB gb mm gI : Int32} {mL mQ K F : Nat → Int32} (h1 : gB.toInt ≠ 0) (h2 : gb.toInt ≠ 0) (h : relM mL mQ mm K F gI) : relB gB gb mm gI mL mQ K F := ⟨⟨fun _ => h2, fun _ => h1⟩, fun _ => h⟩
/-- an ITEM laid into a copy -/
theorem simM.put {L L1 L2 R : Nat → Int32} {i n : Int} (h1 : ∀ j : Nat, j < 240 → L1 j = L j) (h2 : cpf L1 L2 (6 * i) R 6) (i0 : 0 ≤ i) (hn : n ≤ 40) (hs : simI (R 0) (R 1) (L (6 * i).toNat) (L (6 * i + 1).toNat)) : simM (kL L2) (fL L2) (kL L) (fL L) n := fun j j0 j1 => by
  unfold kL fL
  by_cases q : j = i
  · subst q
    have a := h2.1 0 (by omega) (by omega)
    have b := h2.1 1 (by omega) (by omega)
    rw [show 6 * j + 0 = 6 * j by omega] at a
    rw [a, b]
    exact hs
  · have a := h2.2 (6 * j) (by omega) (by omega)
    have b := h2.2 (6 * j + 1) (by omega) (by omega)
    rw [a, b, h1 _ (by omega), h1 _ (by omega)]
    exact simI.rf
theorem mayR.sim {L Q R : Nat → Int32} {i : Int} (h : mayR L Q R i) : simI (R 0) (R 1) (L (6 * i).toNat) (L (6 * i + 1).toNat) := by
  by_cases q : (L (6 * i).toNat).toInt = 115 ∨ (R 0).toInt = 115
  · obtain ⟨e1, e2⟩ := h.2.1 q
    exact ⟨by omega, fun _ => e2.symm, by omega⟩
  · have g := (h.2.2 q).2
    exact ⟨⟨fun x => absurd (Or.inr x) q, fun x => absurd (Or.inl x) q⟩, fun x => absurd (Or.inr x) q, g.symm⟩
theorem smK.sim {L L' : Nat → Int32} {n : Int} (h : smK L L') (hn : n ≤ 40) : simM (kL L') (fL L') (kL L) (fL L) n := simM.eq (fun i h0 h1 => by have := h i 0 h0 (by omega) (by omega) (by omega); rw [show 6 * i + 0 = 6 * i by omega] at this; exact this) (fun i h0 h1 => h i 1 h0 (by omega) (by omega) (by omega))
theorem simM.cp240 {L L' : Nat → Int32} {n : Int} (h : ∀ j : Nat, j < 240 → L' j = L j) (hn : n ≤ 40) : simM (kL L') (fL L') (kL L) (fL L) n := simM.eq (fun i h0 h1 => h _ (by omega)) (fun i h0 h1 => h _ (by omega))
theorem nmE.at {K F : Nat → Int32} {b n n' : Int} {w : Int32} (h : nmE K F b n w) (e : n = n') : nmE K F b n' w := e ▸ h
theorem swY.noV {B : Int → Int} {n : Int} {w k0 f0 : Int32} (h : noVit B 0 w 0) : ¬ swY B n w k0 f0 := fun ⟨_, _, _, _, _, _, hi, ho, _⟩ => h _ _ _ _ _ _ _ ⟨hi, ho⟩
theorem swY.noE {B : Int → Int} {n e : Int} {w k0 f0 k f s a b c : Int32} (h : itemAt B 0 k f s a b c e) (he : e ≠ n) : ¬ swY B n w k0 f0 := fun ⟨_, _, _, _, _, _, hi, _⟩ => he (h.uq hi).2.2.2.2.2.2
theorem swY.noK {B : Int → Int} {n : Int} {w k0 f0 k f s a b c : Int32} (h : itemAt B 0 k f s a b c n) (hn : ¬ ((k.toInt = 115 ↔ k0.toInt = 115) ∧ (k.toInt = 103 ↔ k0.toInt = 103) ∧ (k0.toInt = 115 → f.toInt = f0.toInt))) : ¬ swY B n w k0 f0 := fun ⟨k', f', _, _, _, _, hi, _, h1, h2, h3⟩ => by
  obtain ⟨e1, e2, _⟩ := h.uq hi
  subst e1
  subst e2
  exact hn ⟨h1, h2, h3⟩
def swpR (B : Int → Int) (n : Int) (gb gI a r : Int32) (K F : Nat → Int32) : Prop := (r.toInt = -1 ∧ (a.toInt < 0 ∨ 39 < a.toInt)) ∨ (r.toInt = -2 ∧ 0 ≤ a.toInt ∧ a.toInt ≤ 39 ∧ (gb.toInt = 0 ∨ gI.toInt ≤ a.toInt)) ∨ (0 ≤ a.toInt ∧ a.toInt ≤ 39 ∧ gb.toInt ≠ 0 ∧ a.toInt < gI.toInt ∧ ∃ w : Int32, nmE K F 0 a.toInt w ∧ ((r.toInt = -2 ∧ ¬ swY B n w (K (0 + a.toInt).toNat) (F (0 + a.toInt).toNat)) ∨ (r.toInt = 0 ∧ swY B n w (K (0 + a.toInt).toNat) (F (0 + a.toInt).toNat))))
def swpC (B : Int → Int) (n : Int) (gB mm a r : Int32) (L Q : Nat → Int32) : Prop := (r.toInt = -1 ∧ (a.toInt < 0 ∨ 39 < a.toInt)) ∨ (r.toInt = -2 ∧ 0 ≤ a.toInt ∧ a.toInt ≤ 39 ∧ (gB.toInt = 0 ∨ mm.toInt ≤ a.toInt)) ∨ (0 ≤ a.toInt ∧ a.toInt ≤ 39 ∧ gB.toInt ≠ 0 ∧ a.toInt < mm.toInt ∧ ((r.toInt = -2 ∧ ¬ swC B n L Q a.toInt) ∨ (r.toInt = 0 ∧ swC B n L Q a.toInt)))
theorem swp.uq {B : Int → Int} {n : Int} {gB gb mm gI a r r2 : Int32} {mL mQ K F : Nat → Int32} (hB : relB gB gb mm gI mL mQ K F) (h : swpC B n gB mm a r mL mQ) (h2 : swpR B n gb gI a r2 K F) : r = r2 := by
  refine Int32.toInt_inj.mp ?_
  have hb := hB.1
  by_cases q : gB.toInt = 0
  · have q2 : gb.toInt = 0 := by omega
    rcases h with h | h | h <;> rcases h2 with g | g | g <;> omega
  · have hm := hB.2 q
    have e := hm.1
    rcases h with h | h | ⟨h0, h9, _, hl, h⟩ <;> rcases h2 with g | g | ⟨g0, g9, _, gl, w, hw, g⟩ <;> try omega
    have hi := swap_iff (B := B) (n := n) hm h0 hl hw
    rcases h with ⟨h1, h2⟩ | ⟨h1, h2⟩ <;> rcases g with ⟨g1, g2⟩ | ⟨g1, g2⟩
    · omega
    · exact absurd (hi.mpr g2) h2
    · exact absurd (hi.mp h2) g2
    · omega
theorem simM.lay {K F K2 F2 K3 F3 : Nat → Int32} {i n : Int} {k f : Int32} (hK : cpd K K2 80 0 40) (hF : cpd F F2 80 0 40) (eK : K3 = upd K2 (80 + i).toNat k) (eF : F3 = upd F2 (80 + i).toNat f) (hs : simI k f (K (0 + i).toNat) (F (0 + i).toNat)) (i0 : 0 ≤ i) (i1 : i < 40) (hn : n ≤ 40) : simM (kR K3 80) (kR F3 80) (kR K3 0) (kR F3 0) n := fun j j0 j1 => by
  have aK : K3 (0 + j).toNat = K (0 + j).toNat := by rw [eK, pk_un (by omega)]; exact hK.2 (0 + j) (by omega) (by omega)
  have aF : F3 (0 + j).toNat = F (0 + j).toNat := by rw [eF, pk_un (by omega)]; exact hF.2 (0 + j) (by omega) (by omega)
  unfold kR
  rw [aK, aF]
  by_cases q : j = i
  · subst q
    rw [eK, eF, pk_us, pk_us]
    exact hs
  · rw [eK, eF, pk_un (by omega), pk_un (by omega), hK.1 j j0 (by omega), hF.1 j j0 (by omega)]
    exact simI.rf
theorem smR.kp8 {gb gI : Int32} {K F K' F' : Nat → Int32} (hK : kpO K K' 80 40) (hF : kpO F F' 80 40) (hn : gI.toInt ≤ 40) : smR gb gb gI K F K' F' := ⟨Iff.rfl, fun _ => simM.eq (fun i h0 h1 => hK (0 + i) (by omega) (by omega)) (fun i h0 h1 => hF (0 + i) (by omega) (by omega))⟩
/-- the tried ITEMS: kinds and NAMES of THE MODEL -/
def trd (K F K' F' : Nat → Int32) : Prop := (∀ j : Int, 0 ≤ j → j < 40 → K' (40 + j).toNat = K (0 + j).toNat) ∧ ∀ j : Int, 0 ≤ j → j < 40 → F' (40 + j).toNat = F (0 + j).toNat
theorem trd.kp {K F K1 F1 K' F' : Nat → Int32} (h : trd K1 F1 K' F') (hK : kpO K K1 40 40) (hF : kpO F F1 40 40) : trd K F K' F' := ⟨fun j h0 h1 => (h.1 j h0 h1).trans (hK (0 + j) (by omega) (by omega)), fun j h0 h1 => (h.2 j h0 h1).trans (hF (0 + j) (by omega) (by omega))⟩
/-- THE MODEL becomes what stands at M -/
def becM (K F K' F' : Nat → Int32) (M : Int) : Prop := (∀ j : Int, 0 ≤ j → j < 40 → K' (0 + j).toNat = K (M + j).toNat) ∧ ∀ j : Int, 0 ≤ j → j < 40 → F' (0 + j).toNat = F (M + j).toNat
theorem smR.take {gb gb' gI : Int32} {K F K1 F1 K' F' : Nat → Int32} (h0 : gb.toInt ≠ 0) (h1 : gb'.toInt ≠ 0) (t : trd K F K1 F1) (b : becM K1 F1 K' F' 40) (hn : gI.toInt ≤ 40) : smR gb gb' gI K F K' F' := ⟨⟨fun _ => h0, fun _ => h1⟩, fun _ => simM.eq (fun i i0 i1 => (b.1 i i0 (by omega)).trans (t.1 i i0 (by omega))) (fun i i0 i1 => (b.2 i i0 (by omega)).trans (t.2 i i0 (by omega)))⟩
theorem smR.swp {gb gb' gS gI : Int32} {K F K' F' : Nat → Int32} (h0 : gb.toInt ≠ 0) (h1 : gb'.toInt ≠ 0) (o : othR gb gS gI K F) (hS : gS.toInt ≠ 0) (b : becM K F K' F' 80) (hn : gI.toInt ≤ 40) : smR gb gb' gI K F K' F' := ⟨⟨fun _ => h0, fun _ => h1⟩, fun _ => (simM.eq (fun i i0 i1 => b.1 i i0 (by omega)) (fun i i0 i1 => b.2 i i0 (by omega))).tr (o hS).2⟩
theorem othR.none {gb gS gI : Int32} {K F : Nat → Int32} (h : gS.toInt = 0) : othR gb gS gI K F := fun q => absurd h q
theorem othC.none {gB gO mm om : Int32} {mL mQ oL oQ : Nat → Int32} (h : gO.toInt = 0) : othC gB gO mm om mL mQ oL oQ := fun q => absurd h q
/-- all of the first n are x -/
def alT (f : Nat → Int32) (n : Int) (x : Int32) : Prop := ∀ j : Nat, (j : Int) < n → f j = x
theorem alT.zero {f : Nat → Int32} {x : Int32} : alT f 0 x := fun j h => by omega
theorem alT.step {f f' : Nat → Int32} {n n' : Int} {x i : Int32} (h : alT f n x) (e : f' = upd f i.toNatClampNeg x) (hi : i.toInt = n) (h0 : 0 ≤ n) (hn : n' = n + 1) : alT f' n' x := fun j hj => by
  have hi2 : i.toNatClampNeg = n.toNat := congrArg Int.toNat hi
  rw [e, hi2]
  by_cases q : j = n.toNat
  · rw [q, pk_us]
  · rw [pk_un (fun w => q w)]; exact h j (by omega)
theorem alT.all {f : Nat → Int32} {n : Int} {N : Nat} {x : Int32} (h : alT f n x) (hn : (N : Int) ≤ n) : ∀ j : Nat, j < N → f j = x := fun j hj => h j (by omega)
/-- what build leaves: the reference, the class -/
def bldR (B : Int → Int) (n : Int) (r gb gb' gS gS' gI gI' : Int32) (K F K' F' V N V' N' : Nat → Int32) : Prop := (r.toInt = -2 ∧ gb' = gb ∧ gS' = gS ∧ gI' = gI ∧ V' = V ∧ N' = N ∧ kpO K K' 40 40 ∧ kpO F F' 40 40) ∨ (r.toInt ≠ -2 ∧ gb'.toInt = 1 ∧ gS'.toInt = 0 ∧ (∀ j : Nat, j < 4 → V' j = -4) ∧ (∀ j : Nat, j < 384 → N' j = -1) ∧ ∃ K1 F1 : Nat → Int32, rdN B n (-4) gI'.toInt K1 F1 ∧ becM K1 F1 K' F' 40)
def bldC (B : Int → Int) (n : Int) (r gB gB' gO gO' mm mm' : Int32) (L Q L' Q' V N V' N' : Nat → Int32) : Prop := (r.toInt = -2 ∧ gB' = gB ∧ gO' = gO ∧ mm' = mm ∧ L' = L ∧ Q' = Q ∧ V' = V ∧ N' = N) ∨ (r.toInt ≠ -2 ∧ gB'.toInt = 1 ∧ gO'.toInt = 0 ∧ (∀ j : Nat, j < 4 → V' j = -4) ∧ (∀ j : Nat, j < 384 → N' j = -1) ∧ ∃ st gt : Int, rdR B n (-4) L' Q' mm'.toInt st gt)
theorem bld.rel {B : Int → Int} {n : Int} {r r2 gB gB' gO gO' mm mm' om gb gb' gS gS' gI gI' : Int32} {L Q L' Q' V N V' N' K F K' F' V2 N2 V2' N2' oL oQ : Nat → Int32} (hc : bldC B n r gB gB' gO gO' mm mm' L Q L' Q' V N V' N') (hr : bldR B n r2 gb gb' gS gS' gI gI' K F K' F' V2 N2 V2' N2') (er : r = r2) (hB : relB gB gb mm gI L Q K F) (oC : othC gB gO mm om L Q oL oQ) (oR : othR gb gS gI K F) (e : eqV V V2 N N2) (hn : gI.toInt ≤ 40) : relB gB' gb' mm' gI' L' Q' K' F' ∧ othC gB' gO' mm' om L' Q' oL oQ ∧ othR gb' gS' gI' K' F' ∧ eqV V' V2' N' N2' := by
  subst er
  rcases hc with ⟨a0, rfl, rfl, rfl, rfl, rfl, rfl, rfl⟩ | ⟨a0, a1, a2, a3, a4, st, gt, a5⟩ <;> rcases hr with ⟨b0, rfl, rfl, rfl, rfl, rfl, b6, b7⟩ | ⟨b0, b1, b2, b3, b4, K1, F1, b5, b6⟩
  · exact ⟨hB.step smC.rf (smR.kp b6 b7 hn), oC, oR.kp b6 b7 hn, e⟩
  · exact absurd a0 b0
  · exact absurd b0 a0
  · refine ⟨relB.new (by omega) (by omega) (rdR.rel a5 b5 rfl rfl b6.1 b6.2), othC.none a2, othR.none b2, fun j hj => (a3 j hj).trans (b3 j hj).symm, fun j hj => (a4 j hj).trans (b4 j hj).symm, fun j hj => Or.inl (by rw [a3 j hj]; decide)⟩
theorem smC.take {gB gB' mm mm' ms mg ms' mg' : Int32} {mL mQ mL' mQ' : Nat → Int32} (h0 : gB.toInt ≠ 0) (h1 : gB'.toInt ≠ 0) (h : drK mL mQ mm ms mg mL' mQ' mm' ms' mg') (hm : gB.toInt ≠ 0 → mm.toInt ≤ 40) : smC gB gB' mm mm' mL mQ mL' mQ' := ⟨⟨fun _ => h0, fun _ => h1⟩, fun _ => ⟨h.2.2.1, h.2.1, h.1.sim (hm h0)⟩⟩
theorem smC.swp {gB gB' gO mm mm' om : Int32} {mL mQ mL' mQ' oL oQ : Nat → Int32} (h1 : gB'.toInt ≠ 0) (o : othC gB gO mm om mL mQ oL oQ) (hO : gO.toInt ≠ 0) (hL : ∀ j : Nat, j < 240 → mL' j = oL j) (hQ : ∀ j : Nat, j < 16 → mQ' j = oQ j) (hm : mm'.toInt = om.toInt) (h40 : gB.toInt ≠ 0 → mm.toInt ≤ 40) : smC gB gB' mm mm' mL mQ mL' mQ' := by
  obtain ⟨o1, o2, o3, o4⟩ := o hO
  exact ⟨⟨fun _ => o1, fun _ => h1⟩, fun _ => ⟨by omega, fun j hj => (hQ j hj).trans (o3 j hj), (simM.cp240 hL (h40 o1)).tr o4⟩⟩
theorem othC.new {gB gO mm om : Int32} {mL mQ oL1 oL oQ R : Nat → Int32} {i : Int} (h0 : gB.toInt ≠ 0) (hm : om.toInt = mm.toInt) (hQ : ∀ j : Nat, j < 16 → oQ j = mQ j) (hL : ∀ j : Nat, j < 240 → oL1 j = mL j) (hp : cpf oL1 oL (6 * i) R 6) (hr : mayR mL mQ R i) (i0 : 0 ≤ i) (h40 : gB.toInt ≠ 0 → mm.toInt ≤ 40) : othC gB gO mm om mL mQ oL oQ := fun _ => ⟨h0, hm, hQ, simM.put hL hp i0 (h40 h0) hr.sim⟩
def m40 (gB mm : Int32) : Prop := gB.toInt ≠ 0 → mm.toInt ≤ 40
theorem relB.le40 {gB gb mm gI : Int32} {mL mQ K F : Nat → Int32} (h : relB gB gb mm gI mL mQ K F) : m40 gB mm := fun q => (h.2 q).2.2.1
theorem swC.no {B : Int → Int} {n i : Int} {L Q R : Nat → Int32} (h : itemAt B 0 (R 0) (R 1) (R 2) (R 3) (R 4) (R 5) n) (hm : ¬ mayR L Q R i) : ¬ swC B n L Q i := fun ⟨R', hi, hm'⟩ => hm (by
  obtain ⟨e0, e1, e2, e3, e4, e5, _⟩ := h.uq hi
  unfold mayR wellR nmA at *
  rw [e0, e1, e2, e3, e4, e5]
  exact hm')
theorem relB.gno {gB gb mm gI : Int32} {mL mQ K F : Nat → Int32} (h : relB gB gb mm gI mL mQ K F) (w i : Int32) : (gB.toInt = 0 ∨ (w.toInt = 0 ∧ mm.toInt ≤ i.toInt) ∨ (w.toInt ≠ 0 ∧ ¬ hsQ mQ i.toInt)) ↔ (gb.toInt = 0 ∨ (w.toInt = 0 ∧ gI.toInt ≤ i.toInt) ∨ (w.toInt ≠ 0 ∧ ¬ hasS K F 0 gI.toInt i)) := by
  have hb := h.1
  by_cases q : gB.toInt = 0
  · exact ⟨fun _ => Or.inl (by omega), fun _ => Or.inl q⟩
  · have hm := h.2 q
    have q2 : gb.toInt ≠ 0 := hb.mp q
    rw [← hm.has (x := i), hm.1]
    exact ⟨fun x => x.elim (fun y => absurd y q) Or.inr, fun x => x.elim (fun y => absurd y q2) Or.inr⟩
theorem relB.sno {gB gb mm gI k h v : Int32} {mL mQ K F V V2 N N2 : Nat → Int32} (hB : relB gB gb mm gI mL mQ K F) (e : eqV V V2 N N2) (hs : ¬ seeB k h v) : (gB.toInt = 0 ∨ (V k.toInt.toNat).toInt = -4) ↔ (gb.toInt = 0 ∨ (V2 k.toInt.toNat).toInt < 0) := by
  have hs : ¬ (k.toInt < 0 ∨ 3 < k.toInt ∨ h.toInt < 0 ∨ 95 < h.toInt ∨ v.toInt < -1 ∨ 10000000 < v.toInt) := hs
  have hb := hB.1
  have := e.set (k := k) (by omega) (by omega)
  omega
