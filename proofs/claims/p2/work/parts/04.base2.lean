/-! constructors: cells are made one behind the other, at addresses h0, h0 + 1, ..; a stretch of cells of given kinds. Own rows. -/
def cF (b : Nat) (H0 H : Heap) (locs : List Loc) : Prop := H0.size ≤ H.size ∧ (∀ q : Nat, q < b → H[q]? = H0[q]?) ∧ ∀ l ∈ locs, b ≤ l.base
theorem cF.rf {b : Nat} {H : Heap} : cF b H H [] := ⟨Nat.le_refl _, fun _ _ => rfl, fun _ h => by cases h⟩
theorem cF.put {b : Nat} {H0 H H1 : Heap} {locs : List Loc} {a k : Nat} (h : cF b H0 H locs) (z : H1.size = H.size) (oq : ∀ q : Nat, q ≠ a → H1[q]? = H[q]?) (hb : b ≤ a) : cF b H0 H1 (locs ++ [⟨a, k⟩]) := by
  refine ⟨by rw [z]; exact h.1, fun q hq => (oq q (by omega)).trans (h.2.1 q hq), fun x hx => ?_⟩
  rcases List.mem_append.mp hx with h1 | h1
  · exact h.2.2 x h1
  · rw [List.mem_singleton.mp h1]; exact hb
theorem cF.new {b z : Nat} {H0 H H1 : Heap} {locs : List Loc} (h : cF b H0 H locs) (hz : H.size = z) (hz1 : H1.size = z + 1) (o : ∀ q : Nat, q < z → H1[q]? = H[q]?) (hb : b ≤ z) : cF b H0 H1 locs :=
  ⟨by have := h.1; omega, fun q hq => (o q (by omega)).trans (h.2.1 q hq), h.2.2⟩
def tS (D : va_G) (F : tFT) (KL : List Nat) (b : Nat) (H : Heap) : Prop := ∀ i : Nat, i < KL.length → ∃ e : va_E, va_at D vwCl (b + i, e) H ∧ ∀ t : Nat → Nat, (∀ j : Nat, j < KL.length → t (b + j) = KL.getD j 0) → F t (KL.getD i 0) e
theorem tS.nil {D : va_G} {F : tFT} {b : Nat} {H : Heap} : tS D F [] b H := fun i h => absurd h (Nat.not_lt_zero i)
theorem tS.kept {D : va_G} {F : tFT} {KL : List Nat} {b : Nat} {H H1 : Heap} (h : tS D F KL b H) (o : ∀ q : Nat, b ≤ q → q < b + KL.length → H1[q]? = H[q]?) : tS D F KL b H1 := fun i hi => by
  obtain ⟨e, h1, h2⟩ := h i hi
  exact ⟨e, h1.kept (o (b + i) (by omega) (by omega)), h2⟩
theorem tS.app {D : va_G} {F : tFT} {K1 K2 : List Nat} {b : Nat} {H : Heap} (h1 : tS D F K1 b H) (h2 : tS D F K2 (b + K1.length) H) : tS D F (K1 ++ K2) b H := fun i hi => by
  rw [List.length_append] at hi
  by_cases h : i < K1.length
  · obtain ⟨e, a1, a2⟩ := h1 i h
    refine ⟨e, a1, fun t ht => ?_⟩
    have e1 : (K1 ++ K2).getD i 0 = K1.getD i 0 := by simp [List.getD, List.getElem?_append_left h]
    rw [e1]
    refine a2 t (fun j hj => ?_)
    have := ht j (by rw [List.length_append]; omega)
    rw [this]
    simp [List.getD, List.getElem?_append_left hj]
  · obtain ⟨e, a1, a2⟩ := h2 (i - K1.length) (by omega)
    have ei : b + K1.length + (i - K1.length) = b + i := by omega
    rw [ei] at a1
    refine ⟨e, a1, fun t ht => ?_⟩
    have e1 : (K1 ++ K2).getD i 0 = K2.getD (i - K1.length) 0 := by simp [List.getD, List.getElem?_append_right (Nat.not_lt.mp h)]
    rw [e1]
    refine a2 t (fun j hj => ?_)
    have := ht (K1.length + j) (by rw [List.length_append]; omega)
    rw [show b + K1.length + j = b + (K1.length + j) by omega, this]
    simp [List.getD, List.getElem?_append_right (Nat.le_add_right K1.length j)]
theorem tS.cons {D : va_G} {F : tFT} {k : Nat} {KL : List Nat} {b : Nat} {H : Heap} {e : va_E} (h0 : va_at D vwCl (b, e) H) (h : tS D F KL (b + 1) H) (hF : ∀ t : Nat → Nat, t b = k → (∀ j : Nat, j < KL.length → t (b + (j + 1)) = KL.getD j 0) → F t k e) : tS D F (k :: KL) b H := fun i hi => by
  cases i with
  | zero => exact ⟨e, h0, fun t ht => hF t (ht 0 (by simp)) (fun j hj => ht (j + 1) (by simp; omega))⟩
  | succ i =>
    obtain ⟨e', a1, a2⟩ := h i (by simp at hi; omega)
    refine ⟨e', by rw [show b + (i + 1) = b + 1 + i by omega]; exact a1, fun t ht => a2 t (fun j hj => ?_)⟩
    rw [show b + 1 + j = b + (j + 1) by omega]
    exact ht (j + 1) (by simp; omega)
def tK2 (KL : List Nat) (b : Nat) : Nat → Nat := fun a => if a < b then 0 else KL.getD (a - b) 0
theorem tK2_at (KL : List Nat) (b j : Nat) : tK2 KL b (b + j) = KL.getD j 0 := by
  unfold tK2
  rw [if_neg (by omega), Nat.add_sub_cancel_left]
theorem tS.good {D : va_G} {F : tFT} {KL : List Nat} {b : Nat} {H : Heap} (h : tS D F KL b H) : tG D F (tK2 KL b) H := fun a ha => by
  by_cases hb : a < b
  · simp [tK2, hb] at ha
  · have e1 : a = b + (a - b) := by omega
    by_cases hl : a - b < KL.length
    · obtain ⟨e, a1, a2⟩ := h (a - b) hl
      refine ⟨e, by rw [e1]; exact a1, ?_⟩
      rw [show tK2 KL b a = KL.getD (a - b) 0 by rw [e1, tK2_at]; simp]
      exact a2 _ (fun j _ => tK2_at KL b j)
    · exfalso
      apply ha
      simp [tK2, hb, List.getD, List.getElem?_eq_none (Nat.not_lt.mp hl)]
def cP (D : va_G) (cI cL cC : ClassId) (ci : Nat) (raw : List Value) (h0 : Nat) : Array Value → State → Prop := va_Pc [.ref h0] (fun U => U.heap.size = h0 + 1 ∧ va_at D vwCl (h0, .inr (ci, raw)) U.heap ∧ EV D cI cL cC U)
def cQ (D : va_G) (F : tFT) (KL : List Nat) (h0 : Nat) : Array Value → State → Outcome → State → Prop := fun _ st oc u => oc = .returned none ∧ tS D F KL h0 u.heap ∧ u.heap.size = h0 + KL.length ∧ ∀ q : Nat, q < h0 → u.heap[q]? = st.heap[q]?
/-- fill, and other methods that change one row alone -/
def rP (D : va_G) (cI cL cC : ClassId) (av : List Value) (a : Nat) (e : va_E) : Array Value → State → Prop := va_Pc av (fun U => va_at D vwCl (a, e) U.heap ∧ EV D cI cL cC U)
def rQ (D : va_G) (a : Nat) (post : va_E → Prop) : Array Value → State → Outcome → State → Prop := fun _ st oc u => oc = .returned none ∧ (∃ e, va_at D vwCl (a, e) u.heap ∧ post e) ∧ u.heap.size = st.heap.size ∧ ∀ q : Nat, q ≠ a → u.heap[q]? = st.heap[q]?
section NW
variable {p : Program} {l : Launch} {e : Env} {R : Room} {s : State} {m : MethodId} {args : Array Value} {below : List Frame} {meth : Method} {c : Code} {H : Heap} {locs : List Loc} {cells slots : Nat} {Q : State → Prop}
variable {cc : ByteArray} {pc : Nat} {ls : Array Slot} {rest st0 : List Value} {D : va_G} {F F2 : tFT} {a b z : Nat} {H0 : Heap} {cI cL cC : ClassId} {av : List Value} {ar : Array Value} {tys : List (ClassId × FieldType)}
theorem cP_I {ci : Nat} {raw : List Value} {h0 : Nat} (hz : H.size = h0 + 1) (hat : va_at D vwCl (h0, .inr (ci, raw)) H) (hE : EV D cI cL cC s) : PreS s H (cP D cI cL cC ci raw h0) [.ref h0] := ⟨fun _ _ _ _ q => ⟨q.1, q.2.1, q.2.2.1, q.2.2.2.calling⟩, fun U hU hW => ⟨rfl, by rw [hU]; exact hz, by rw [hU]; exact hat, hE.warm hW⟩⟩
theorem rP_S {ee : va_E} (hat : va_at D vwCl (a, ee) H) (hE : EV D cI cL cC s) : PreS s H (rP D cI cL cC av a ee) av := ⟨fun _ _ _ _ q => ⟨q.1, q.2.1, q.2.2.calling⟩, fun U hU hW => ⟨rfl, by rw [hU]; exact hat, hE.warm hW⟩⟩
theorem nw_new (hexec : p.tables.exec = Jvm.exec) (hb : c.code = cc) {own C : String} {T : u_T} {N ci index : Nat} {Ts : List Cond} (hts : ∀ w ∈ Ts, w.before args s = true) (hin : ∀ w ∈ u_ws C T N, w ∈ Ts) (ty : Nat → FieldType) (hty : ∀ k, k < N → parseFieldDescriptor (T k).2.2.1 = some (ty k)) (hown : s.vm.findClass own = some m.cls) (hcl : (Cond.classLink own index C).before args s = true) (hinst : (Cond.instantiable C N).before args s = true) (hini : (Cond.initialized C).before args s = true)
    (hK : va_K D vwCl tys s) (hc : vwCl[ci]? = some (C, T, N)) {fs : List Value} (hfs : ∀ j, j < N → defaultValue (ty j) = vp_V fs j) (hS : cF b H0 H locs) (hz : H.size = z) (hbz : b ≤ z) (hcells : cells + 1 ≤ R.cells) (hslots : slots + N ≤ R.slots) (hdg : decode cc pc = .ok (.new index, 3))
    (kk : ∀ H1 : Heap, va_at D vwCl (z, .inr (ci, fs)) H1 → H1.size = z + 1 → (∀ q : Nat, q < z → H1[q]? = H[q]?) → cF b H0 H1 locs →
      W p l e R s m args below meth c H1 locs (cells + 1) (slots + N) Q (F0 m (pc + 3) ls (.ref z :: rest))) : W p l e R s m args below meth c H locs cells slots Q (F0 m pc ls rest) := by
  have hKn := hK.1 ci _ hc
  refine W.newcK hexec hb hown hcl hinst hini rfl hdg hcells hslots hKn.2.1 hz fun H1 kC hkC e1 z1 o1 => ?_
  exact kk H1 ⟨_, hc, (u_born ty hts hin hKn hkC e1 hty).to hfs⟩ z1 o1 (hS.new hz z1 o1 hbz)
theorem nw_newI (hexec : p.tables.exec = Jvm.exec) (hb : c.code = cc) (harr : (Cond.arrayClass .int).before args s = true) (hK : va_K D vwCl (tvK cI cL cC) s) (hS : cF b H0 H locs) (hz : H.size = z) (hbz : b ≤ z)
    {n : Int32} {N : Nat} (hn : ¬ n < 0) (hN : n.toNatClampNeg = N) (hbytes : N * componentBytes .int ≤ 536870912) (hcells : cells + 1 ≤ R.cells) (hslots : slots + N ≤ R.slots) (hdg : decode cc pc = .ok (.newarray .int, 2))
    (kk : ∀ H1 : Heap, va_at D vwCl (z, .inl (cI, N, .inl (fun _ => 0))) H1 → H1.size = z + 1 → (∀ q : Nat, q < z → H1[q]? = H[q]?) → cF b H0 H1 locs →
      W p l e R s m args below meth c H1 locs (cells + 1) (slots + N) Q (F0 m (pc + 2) ls (.ref z :: rest))) : W p l e R s m args below meth c H locs cells slots Q (F0 m pc ls (.int n :: rest)) := by
  refine va_newaK (atype := .int) hexec hb harr rfl hdg rfl hn hN hbytes hcells hslots hz fun H1 cA e1 z1 o1 hAr hNm => ?_
  have hc : cA = cI := Option.some.inj (hNm.symm.trans (hK.2 0 _ rfl).2)
  subst hc
  exact kk H1 e1 z1 o1 (hS.new hz z1 o1 hbz)
theorem nw_newL (hexec : p.tables.exec = Jvm.exec) (hb : c.code = cc) (harr : (Cond.arrayClass .long).before args s = true) (hK : va_K D vwCl (tvK cI cL cC) s) (hS : cF b H0 H locs) (hz : H.size = z) (hbz : b ≤ z)
    {n : Int32} {N : Nat} (hn : ¬ n < 0) (hN : n.toNatClampNeg = N) (hbytes : N * componentBytes .long ≤ 536870912) (hcells : cells + 1 ≤ R.cells) (hslots : slots + N ≤ R.slots) (hdg : decode cc pc = .ok (.newarray .long, 2))
    (kk : ∀ H1 : Heap, va_at D vwCl (z, .inl (cL, N, .inr (.inl (fun _ => 0)))) H1 → H1.size = z + 1 → (∀ q : Nat, q < z → H1[q]? = H[q]?) → cF b H0 H1 locs →
      W p l e R s m args below meth c H1 locs (cells + 1) (slots + N) Q (F0 m (pc + 2) ls (.ref z :: rest))) : W p l e R s m args below meth c H locs cells slots Q (F0 m pc ls (.int n :: rest)) := by
  refine va_newaK (atype := .long) hexec hb harr rfl hdg rfl hn hN hbytes hcells hslots hz fun H1 cA e1 z1 o1 hAr hNm => ?_
  have hc : cA = cL := Option.some.inj (hNm.symm.trans (hK.2 1 _ rfl).2)
  subst hc
  exact kk H1 e1 z1 o1 (hS.new hz z1 o1 hbz)
theorem nw_newq (hexec : p.tables.exec = Jvm.exec) (hb : c.code = cc) {own : String} {index : Nat} (hown : s.vm.findClass own = some m.cls) (hclink : (Cond.classLink own index RX0).before args s = true) (hE : EV D cI cL cC s) (hS : cF b H0 H locs) (hz : H.size = z) (hbz : b ≤ z)
    {n : Int32} {N : Nat} (hn : ¬ n < 0) (hN : n.toNatClampNeg = N) (hbytes : N * 4 ≤ 536870912) (hcells : cells + 1 ≤ R.cells) (hslots : slots + N ≤ R.slots) (hdg : decode cc pc = .ok (.anewarray index, 3))
    (kk : ∀ H1 : Heap, va_at D vwCl (z, .inl (cC, N, .inr (.inr (.inr (.inr (fun _ => none)))))) H1 → H1.size = z + 1 → (∀ q : Nat, q < z → H1[q]? = H[q]?) → cF b H0 H1 locs →
      W p l e R s m args below meth c H1 locs (cells + 1) (slots + N) Q (F0 m (pc + 3) ls (.ref z :: rest))) : W p l e R s m args below meth c H locs cells slots Q (F0 m pc ls (.int n :: rest)) := by
  subst hN
  subst hz
  refine W.anew hexec hb hown hclink (va_AO.use hE.2.2) rfl hdg rfl hn hbytes hcells hslots fun cA kA comp f1 f2 f3 f4 => ?_
  obtain ⟨kA', comp', k1, k2, k3, k4⟩ := (hE.1.2 2 _ rfl).2
  have hc : cA = cC := Option.some.inj (f1.symm.trans k4)
  subst hc
  generalize hH1 : H.push ({ cls := cA, slots := Array.replicate n.toNatClampNeg .null, vm := .none } : Cell) = H1
  have z1 : H1.size = H.size + 1 := by rw [← hH1, Array.size_push]
  have e1 : H1[H.size]? = some (arrV cA n.toNatClampNeg (fun _ => .null)) := by rw [← hH1, Array.getElem?_push_size, ← arrV_new]
  have o1 : ∀ q : Nat, q < H.size → H1[q]? = H[q]? := fun q hq => by rw [← hH1, Array.getElem?_push, if_neg (Nat.ne_of_lt hq)]
  exact kk H1 e1 z1 o1 (hS.new rfl z1 o1 hbz)
theorem nw_put (hexec : p.tables.exec = Jvm.exec) (hb : c.code = cc) {own ref C : String} {T : u_T} {N ci index : Nat} {Ts : List Cond} (hts : ∀ w ∈ Ts, w.before args s = true) (hin : ∀ w ∈ u_ws C T N, w ∈ Ts) (ty0 : Nat → FieldType) (hty : ∀ k, k < N → parseFieldDescriptor (T k).2.2.1 = some (ty0 k)) (hnm : ∀ a, a < N → ∀ b, b < N → a ≠ b → (T a).2.1 ≠ (T b).2.1) (hown : s.vm.findClass own = some m.cls) (hK : va_K D vwCl tys s) (hS : cF b H0 H locs) (hba : b ≤ a) {fs : List Value} (hat : va_at D vwCl (a, .inr (ci, fs)) H) (hc : vwCl[ci]? = some (C, T, N)) (k : Nat) (hk : k < N) (hlink : (Cond.fieldLink own index ref (T k).2.1 (T k).2.2.1).before args s = true) (hsame : ∀ x, s.fieldFound? (T k).1 (T k).2.1 (T k).2.2.1 = some x → s.fieldFound? ref (T k).2.1 (T k).2.2.1 = some x) (hfin : (T k).2.2.2 = false) {ty : FieldType} {v : Value} (hd : parseFieldDescriptor (T k).2.2.1 = some ty) (hn : narrow ty v = v) (hfit : fits ty v = true) (hl : k < fs.length)
    (hdg : decode cc pc = .ok (.putfield index, 3)) (kk : ∀ (H1 : Heap) (locs1 : List Loc), va_at D vwCl (a, .inr (ci, fs.set k v)) H1 → H1.size = H.size → (∀ q : Nat, q ≠ a → H1[q]? = H[q]?) → cF b H0 H1 locs1 → W p l e R s m args below meth c H1 locs1 cells slots Q (F0 m (pc + 3) ls rest)) : W p l e R s m args below meth c H locs cells slots Q (F0 m pc ls (v :: .ref a :: rest)) := by
  have hap := va_apart (own := own) hts hin ty0 hty hnm hK hc
  obtain ⟨r, h1, cell, q1, q2, q3, q4⟩ := hat
  have hr : r = (C, T, N) := Option.some.inj (h1.symm.trans hc)
  subst hr
  obtain ⟨hSl, hfc, kC, hkC, hkind⟩ := hK.1 ci _ hc
  obtain ⟨cf, kf, fi, f, hi, hsl⟩ := hSl k hk
  have hlay := hts _ (hin _ (u_in_lay hk))
  unfold u_lay at hlay
  rw [if_neg (by rw [hfin]; decide)] at hlay
  have hst := (u_facts hfc hkC (u_lays hts hin hk) hi).1
  have h6 := u_store hfc hkC hkind hlay hi hd hn hfit
  refine W.putK hexec hb (f := f) ⟨hown, hlink, ⟨_, _, _, hsame _ hi⟩, hst⟩ (by rw [q2]; exact h6) q1 q3 (by rw [hsl]; exact k2_hasslot (q4 k hk)) rfl rfl hdg fun H' e1 e2 e3 => ?_
  rw [hsl] at e1 ⊢
  exact kk H' _ ⟨_, hc, t_OB.to (V := updV (vp_V fs) k v) ⟨_, e1, q2, q3, t_set q4 hap hk v⟩ (fun j _ => vp_updV_set hl v j)⟩ e2 e3 (hS.put e2 e3 hba)
theorem nw_putF (hexec : p.tables.exec = Jvm.exec) (hb : c.code = cc) {own ref C : String} {T : u_T} {N ci index : Nat} {Ts : List Cond} (hts : ∀ w ∈ Ts, w.before args s = true) (hin : ∀ w ∈ u_ws C T N, w ∈ Ts) (ty0 : Nat → FieldType) (hty : ∀ k, k < N → parseFieldDescriptor (T k).2.2.1 = some (ty0 k)) (hnm : ∀ a, a < N → ∀ b, b < N → a ≠ b → (T a).2.1 ≠ (T b).2.1) (hown : s.vm.findClass own = some m.cls) (hK : va_K D vwCl tys s) (hS : cF b H0 H locs) (hba : b ≤ a) {fs : List Value} (hat : va_at D vwCl (a, .inr (ci, fs)) H) (hc : vwCl[ci]? = some (C, T, N)) (k : Nat) (hk : k < N) (hlink : (Cond.fieldLink own index ref (T k).2.1 (T k).2.2.1).before args s = true) (hsame : ∀ x, s.fieldFound? (T k).1 (T k).2.1 (T k).2.2.1 = some x → s.fieldFound? ref (T k).2.1 (T k).2.2.1 = some x) (hfin : (T k).2.2.2 = true) (hin2 : meth.name = "<init>") (hdecl : (T k).1 = own) {ty : FieldType} {v : Value} (hd : parseFieldDescriptor (T k).2.2.1 = some ty) (hn : narrow ty v = v) (hfit : fits ty v = true) (hl : k < fs.length)
    (hdg : decode cc pc = .ok (.putfield index, 3)) (kk : ∀ (H1 : Heap) (locs1 : List Loc), va_at D vwCl (a, .inr (ci, fs.set k v)) H1 → H1.size = H.size → (∀ q : Nat, q ≠ a → H1[q]? = H[q]?) → cF b H0 H1 locs1 → W p l e R s m args below meth c H1 locs1 cells slots Q (F0 m (pc + 3) ls rest)) : W p l e R s m args below meth c H locs cells slots Q (F0 m pc ls (v :: .ref a :: rest)) := by
  have hap := va_apart (own := own) hts hin ty0 hty hnm hK hc
  obtain ⟨r, h1, cell, q1, q2, q3, q4⟩ := hat
  have hr : r = (C, T, N) := Option.some.inj (h1.symm.trans hc)
  subst hr
  obtain ⟨hSl, hfc, kC, hkC, hkind⟩ := hK.1 ci _ hc
  obtain ⟨cf, kf, fi, f, hi, hsl⟩ := hSl k hk
  have hlay := hts _ (hin _ (u_in_lay hk))
  unfold u_lay at hlay
  rw [if_pos hfin] at hlay
  have hst := (u_facts hfc hkC (u_lays hts hin hk) hi).1
  have hcf : m.cls = cf := by
    obtain ⟨_, _, c', _, _, _, -, -, hf', -, -, -, hown2, -⟩ := Cond.laysFinal_spec hlay
    have e1 : c' = cf := by have := hi.symm.trans hf'; simp at this; exact this.1.symm
    rw [hdecl] at hown2
    rw [← e1]; exact Option.some.inj (hown.symm.trans hown2)
  have h6 := u_fits hfc hkC hkind (Or.inr hlay) hi hd hn hfit
  refine W.putFinK hexec hb hown hlink (hsame _ hi) hst hcf hin2 (by rw [q2]; exact h6) q1 q3 (by rw [hsl]; exact k2_hasslot (q4 k hk)) rfl rfl hdg fun H' e1 e2 e3 => ?_
  rw [hsl] at e1 ⊢
  exact kk H' _ ⟨_, hc, t_OB.to (V := updV (vp_V fs) k v) ⟨_, e1, q2, q3, t_set q4 hap hk v⟩ (fun j _ => vp_updV_set hl v j)⟩ e2 e3 (hS.put e2 e3 hba)
theorem nw_iast (hexec : p.tables.exec = Jvm.exec) (hb : c.code = cc) (hK : va_K D vwCl (tvK cI cL cC) s) {n : Nat} {f : Nat → Int32} (hat : va_at D vwCl (a, .inl (cI, n, .inl f)) H) {i : Int32} {x : Int32} (hin : vp_in i n) (hdg : decode cc pc = .ok (.iastore, 1))
    (kk : ∀ (H1 : Heap), va_at D vwCl (a, .inl (cI, n, .inl (upd f i.toNatClampNeg x))) H1 → H1.size = H.size → (∀ q : Nat, q ≠ a → H1[q]? = H[q]?) → W p l e R s m args below meth c H1 (locs ++ [⟨a, i.toNatClampNeg⟩]) cells slots Q (F0 m (pc + 1) ls rest)) : W p l e R s m args below meth c H locs cells slots Q (F0 m pc ls (.int x :: .int i :: .ref a :: rest)) := by
  refine W.iast hexec hb hat ((hK.2 0 _ rfl).1 n (fun j => .int (f j))) (fun q => by cases q) (by show ¬ (i < 0 ∨ (arrV _ _ _).slots.size ≤ _); rw [arrV_size]; exact hin) rfl rfl hdg fun H1 e z oq => ?_
  refine kk H1 ?_ z oq
  show H1[a]? = some (vp_cell _ _)
  rw [e]
  rw [vp_cell_i, vp_cell_i, arrV_store]
  congr 2
  funext q
  by_cases hq : q = i.toNatClampNeg
  · subst hq
    simp [updV, upd]
  · simp [updV, upd, hq]
theorem nw_last (hexec : p.tables.exec = Jvm.exec) (hb : c.code = cc) (hK : va_K D vwCl (tvK cI cL cC) s) {n : Nat} {f : Nat → Int64} (hat : va_at D vwCl (a, .inl (cL, n, .inr (.inl f))) H) {i : Int32} {x : Int64} (hin : vp_in i n) (hdg : decode cc pc = .ok (.lastore, 1))
    (kk : ∀ (H1 : Heap), va_at D vwCl (a, .inl (cL, n, .inr (.inl (vp_updL f i.toNatClampNeg x)))) H1 → H1.size = H.size → (∀ q : Nat, q ≠ a → H1[q]? = H[q]?) → W p l e R s m args below meth c H1 (locs ++ [⟨a, i.toNatClampNeg⟩]) cells slots Q (F0 m (pc + 1) ls rest)) : W p l e R s m args below meth c H locs cells slots Q (F0 m pc ls (.long x :: .int i :: .ref a :: rest)) := by
  refine W.last hexec hb hat ((hK.2 1 _ rfl).1 n (fun j => .long (f j))) (fun q => by cases q) (by show ¬ (i < 0 ∨ (arrV _ _ _).slots.size ≤ _); rw [arrV_size]; exact hin) rfl rfl hdg fun H1 e z oq => ?_
  refine kk H1 ?_ z oq
  show H1[a]? = some (vp_cell _ _)
  rw [e]
  rw [vp_cell_l, vp_cell_l, arrV_store]
  congr 2
  funext q
  by_cases hq : q = i.toNatClampNeg
  · subst hq
    simp [updV, vp_updL]
  · simp [updV, vp_updL, hq]
theorem nw_aast (hexec : p.tables.exec = Jvm.exec) (hb : c.code = cc) (hK : va_K D vwCl (tvK cI cL cC) s) (hS : cF b H0 H locs) (hba : b ≤ a) {n v : Nat} {vs : List Value} {f : Nat → Option Nat} (hat : va_at D vwCl (a, .inl (cC, n, .inr (.inr (.inr (.inr f))))) H) (hv : va_at D vwCl (v, .inr (0, vs)) H) {i : Int32} (hin : vp_in i n) (hdg : decode cc pc = .ok (.aastore, 1))
    (kk : ∀ (H1 : Heap) (locs1 : List Loc), va_at D vwCl (a, .inl (cC, n, .inr (.inr (.inr (.inr (va_up f i.toNatClampNeg (some v))))))) H1 → H1.size = H.size → (∀ q : Nat, q ≠ a → H1[q]? = H[q]?) → cF b H0 H1 locs1 → W p l e R s m args below meth c H1 locs1 cells slots Q (F0 m (pc + 1) ls rest)) : W p l e R s m args below meth c H locs cells slots Q (F0 m pc ls (.ref v :: .int i :: .ref a :: rest)) := by
  have hlt : i.toNatClampNeg < n := Nat.not_le.mp fun q => hin (Or.inr q)
  have h0 : ¬ i < 0 := fun q => hin (Or.inl q)
  obtain ⟨r', hr', cellV, g1, g2, g3, -⟩ := hv
  have hcls := (hK.1 0 (RX0, TX0, 8) rfl).2
  obtain ⟨kA, comp, k1, k2, k3, -⟩ := (hK.2 2 _ rfl).2
  have hcomp : comp = D.1 0 := Option.some.inj (k3.symm.trans hcls.1)
  subst hcomp
  obtain ⟨kC, hkC, -⟩ := hcls.2
  refine W.aast hexec hb hat (fun q h => by cases h) (fun h => by cases h) k1 k2 rfl hkC ⟨h0, by show _ < (arrV _ _ _).slots.size; rw [arrV_size]; exact hlt⟩ g1 (fun q h => by rw [g3] at h; cases h) (by rw [g2]; exact hkC) (by rw [g2]; exact va_assign hcls) rfl rfl hdg fun H1 e z oq => ?_
  refine kk H1 _ ?_ z oq (hS.put z oq hba)
  show H1[a]? = some (vp_cell _ _)
  rw [e]
  rw [vp_cell_q, vp_cell_q, arrV_store]
  congr 2
  funext q
  by_cases hq : q = i.toNatClampNeg
  · subst hq
    simp [updV, va_up, va_rf]
  · simp [updV, va_up, hq]
theorem nw_call {KL : List Nat} {mc ms : Nat} (hr : CallRun p l e R s m args below meth c H locs cells slots mc ms (F0 m pc ls st0) rest (cQ D F KL z ar) (fun q => z ≤ q)) (hS : cF b H0 H locs) (hz : H.size = z + 1) (hlen : 0 < KL.length) (hbz : b ≤ z)
    (kk : ∀ (H1 : Heap) (locs1 : List Loc), tS D F KL z H1 → H1.size = z + KL.length → (∀ q : Nat, q < z → H1[q]? = H[q]?) → cF b H0 H1 locs1 → W p l e R s m args below meth c H1 locs1 (cells + mc) (slots + ms) Q (F0 m (pc + 3) ls rest)) : W p l e R s m args below meth c H locs cells slots Q (F0 m pc ls st0) := by
  intro T hT X
  obtain ⟨v, st₀, u, T', L, h0, X', hL, e1, ⟨hv, hG, hz2, hk⟩, st⟩ := hr T hT X
  cases hv
  rw [h0] at hk
  obtain ⟨t2, a1, b1⟩ := kk u.heap (locs ++ L) hG hz2 hk ⟨by have := hS.1; omega, fun q hq => (hk q (by omega)).trans (hS.2.1 q hq), fun x hx => by
      rcases List.mem_append.mp hx with h | h
      · exact hS.2.2 x h
      · have := hL x h; omega⟩ T' e1 X'
  exact ⟨t2, st t2 a1, b1⟩
theorem nw_row {post : va_E → Prop} (hr : CallRun p l e R s m args below meth c H locs cells slots 0 0 (F0 m pc ls st0) rest (rQ D a post ar) (fun q => q = a))
    (kk : ∀ (H1 : Heap) (L : List Loc) (ee : va_E), post ee → va_at D vwCl (a, ee) H1 → H1.size = H.size → (∀ q : Nat, q ≠ a → H1[q]? = H[q]?) → (∀ x ∈ L, x.base = a) → W p l e R s m args below meth c H1 (locs ++ L) cells slots Q (F0 m (pc + 3) ls rest)) : W p l e R s m args below meth c H locs cells slots Q (F0 m pc ls st0) := by
  intro T hT X
  obtain ⟨v, st₀, u, T', L, h0, X', hL, e1, ⟨hv, ⟨ee, hat, hp⟩, hz2, hk⟩, st⟩ := hr T hT X
  cases hv
  rw [h0] at hk hz2
  obtain ⟨t2, a1, b1⟩ := kk u.heap L ee hp hat hz2 hk hL T' e1 X'
  exact ⟨t2, st t2 a1, b1⟩
theorem cF.row {L : List Loc} {H1 : Heap} (h : cF b H0 H locs) (z : H1.size = H.size) (oq : ∀ q : Nat, q ≠ a → H1[q]? = H[q]?) (hL : ∀ x ∈ L, x.base = a) (hb : b ≤ a) : cF b H0 H1 (locs ++ L) := by
  refine ⟨by rw [z]; exact h.1, fun q hq => (oq q (by omega)).trans (h.2.1 q hq), fun x hx => ?_⟩
  rcases List.mem_append.mp hx with h1 | h1
  · exact h.2.2 x h1
  · rw [hL x h1]; exact hb
theorem tF.row {t : Nat → Nat} {wr : Nat → Bool} {L : List Loc} {H1 : Heap} (h : tF t wr H0 H locs) (z : H1.size = H.size) (oq : ∀ q : Nat, q ≠ a → H1[q]? = H[q]?) (hL : ∀ x ∈ L, x.base = a) (hw : wr (t a) = true) : tF t wr H0 H1 (locs ++ L) := by
  refine ⟨z.trans h.1, fun q hq => ?_, fun x hx => ?_⟩
  · have : q ≠ a := fun e => by rw [e, hw] at hq; cases hq
    exact (oq q this).trans (h.2.1 q hq)
  · rcases List.mem_append.mp hx with h1 | h1
    · exact h.2.2 x h1
    · rw [hL x h1]; exact hw
end NW
theorem cM_ofW {l : Launch} {y : MethodName} {ws ws' : List Cond} {fr lo mc ms : Nat} {D : va_G} {F : tFT} {cI cL cC : ClassId} {ci h0 : Nat} {raw : List Value} {KL : List Nat} {cc : ByteArray} {maxL : Nat} (hy : plainName y.cls = true) (hi : y.name = "<init>") (hw : ws = Cond.code y cc maxL none :: ws') (hle : 1 ≤ maxL)
    (body : ∀ (p : Program) (e : Env) (s : State) (m : MethodId) (below : List Frame) (meth : Method) (c : Code), p.tables.exec = Jvm.exec → c.code = cc → meth.sig.returnType = none → c.maxLocals = maxL → s.vm.findClass y.cls = some m.cls → (∀ w ∈ ws, w.before #[Value.ref h0] s = true) → meth.locks = false → meth.name = "<init>" → s.heap.size = h0 + 1 → va_at D vwCl (h0, .inr (ci, raw)) s.heap → va_K D vwCl (tvK cI cL cC) s → EV D cI cL cC s → cF h0 s.heap s.heap [] → ∀ ls : Array Slot, lv_has ls maxL [(0, .ref h0)] →
      W p l e ({ frames := fr, cells := mc, slots := ms, locals := lo }) s m #[Value.ref h0] below meth c s.heap [] 0 0 (MQ below (cQ D F KL h0) #[Value.ref h0] s mc ms (fun q => h0 ≤ q)) (F0 m 0 ls [])) : Met l y ws ({ frames := fr, cells := mc, slots := ms, locals := lo }) (cP D cI cL cC ci raw h0) (cQ D F KL h0) mc ms (fun q => h0 ≤ q) := by
  refine Met.ofW (cc := cc) (maxL := maxL) (ret := none) hy hw ?_
  intro p e s m args below meth c s₁ B hml hv
  obtain ⟨rfl, hz, hat, hE⟩ := hv
  have hl := lv_entry [.ref h0] (n := maxL) hle
  rw [lg_entry_eq]
  exact body p e s m below meth c B.exec B.bytes B.returns hml (findClass_of_methodNamed B.named) (atoms_spec (ws := ws) B.pre) B.notSynchronized ((name_of_methodNamed B.named B.method).1.trans hi) hz hat hE.1 hE cF.rf _ hl
theorem tS.one {D : va_G} {F : tFT} {k b : Nat} {H : Heap} {e : va_E} (h : va_at D vwCl (b, e) H) (hF : ∀ t : Nat → Nat, F t k e) : tS D F [k] b H := fun i hi => by
  cases i with
  | zero => exact ⟨e, h, fun t _ => hF t⟩
  | succ i => simp at hi
theorem tS.app2 {D : va_G} {F : tFT} {K1 K2 : List Nat} {b b2 : Nat} {H : Heap} (h1 : tS D F K1 b H) (h2 : tS D F K2 b2 H) (hb : b2 = b + K1.length) : tS D F (K1 ++ K2) b H := by
  subst hb; exact h1.app h2
theorem ty_sld {p : Program} {l : Launch} {e : Env} {R : Room} {s : State} {m : MethodId} {args : Array Value} {below : List Frame} {meth : Method} {c : Code} {H : Heap} {locs : List Loc} {cells slots : Nat} {Q : State → Prop} {cc : ByteArray} {pc : Nat} {ls : Array Slot} {rest : List Value} (hexec : p.tables.exec = Jvm.exec) (hb : c.code = cc) {b L : Nat} {xs : Nat → Int32} (hX : va_X b L xs s H) {i : Int32} (hin : vp_in i L) (hdg : decode cc pc = .ok (.iaload, 1))
    (kk : W p l e R s m args below meth c H locs cells slots Q (F0 m (pc + 1) ls (.int (xs i.toNatClampNeg) :: rest))) : W p l e R s m args below meth c H locs cells slots Q (F0 m pc ls (.int i :: .ref b :: rest)) := by
  obtain ⟨scr, h1, h2, h3, h4, h5⟩ := hX
  have hlt : i.toNatClampNeg < L := Nat.not_le.mp fun q => hin (Or.inr q)
  exact W.iald (v := .int (xs i.toNatClampNeg)) hexec hb h1 h2 h3 (by rw [h4]; exact hin) (h5 _ hlt) rfl rfl hdg kk
theorem ty_slen {p : Program} {l : Launch} {e : Env} {R : Room} {s : State} {m : MethodId} {args : Array Value} {below : List Frame} {meth : Method} {c : Code} {H : Heap} {locs : List Loc} {cells slots : Nat} {Q : State → Prop} {cc : ByteArray} {pc : Nat} {ls : Array Slot} {rest : List Value} (hexec : p.tables.exec = Jvm.exec) (hb : c.code = cc) {b L : Nat} {xs : Nat → Int32} (hX : va_X b L xs s H) (hdg : decode cc pc = .ok (.arraylength, 1))
    (kk : W p l e R s m args below meth c H locs cells slots Q (F0 m (pc + 1) ls (.int (Int32.ofNat L) :: rest))) : W p l e R s m args below meth c H locs cells slots Q (F0 m pc ls (.ref b :: rest)) := by
  obtain ⟨scr, h1, h2, h3, h4, h5⟩ := hX
  exact W.alen (n := Int32.ofNat L) hexec hb h1 h2 (by rw [h4] <;> rfl) rfl rfl hdg kk
theorem va_at.keptA {D : va_G} {H H1 : Heap} {e : va_E} {b z : Nat} (k : Nat) (h : va_at D vwCl (b + k, e) H) (o : ∀ q : Nat, q < b + z → H1[q]? = H[q]?) (hlt : k < z) : va_at D vwCl (b + k, e) H1 := h.kept (o (b + k) (by omega))
theorem va_at.keptP {D : va_G} {H H1 : Heap} {e : va_E} {b j : Nat} (k : Nat) (h : va_at D vwCl (b + k, e) H) (o : ∀ q : Nat, q ≠ b + j → H1[q]? = H[q]?) (hne : (k == j) = false) : va_at D vwCl (b + k, e) H1 := h.kept (o (b + k) (by have h9 : k ≠ j := (by simpa using hne); omega))
theorem tS.keptA {D : va_G} {F : tFT} {KL : List Nat} {H H1 : Heap} {b z : Nat} (k n : Nat) (h : tS D F KL (b + k) H) (hn : KL.length = n) (o : ∀ q : Nat, q < b + z → H1[q]? = H[q]?) (hle : k + n ≤ z) : tS D F KL (b + k) H1 := h.kept (fun q _ h2 => o q (by omega))
theorem tS.keptP {D : va_G} {F : tFT} {KL : List Nat} {H H1 : Heap} {b j : Nat} (k n : Nat) (h : tS D F KL (b + k) H) (hn : KL.length = n) (o : ∀ q : Nat, q ≠ b + j → H1[q]? = H[q]?) (hne : (Nat.ble (k + n) j || Nat.blt j k) = true) : tS D F KL (b + k) H1 := h.kept (fun q h1 h2 => o q (by simp at hne; omega))
theorem tS.app3 {D : va_G} {F : tFT} {K1 K2 : List Nat} {b b2 : Nat} {H : Heap} (n : Nat) (h1 : tS D F K1 b H) (h2 : tS D F K2 b2 H) (hn : K1.length = n) (hb : b2 = b + n) : tS D F (K1 ++ K2) b H := by
  subst hn; subst hb; exact h1.app h2
theorem tSlen {KL : List Nat} {b n : Nat} {H : Heap} (hz : H.size = b + KL.length) (hn : KL.length = n) : H.size = b + n := by rw [hz, hn]
theorem lt3 {j : Nat} (h : j < 3) : j = 0 ∨ j = 1 ∨ j = 2 := by omega
theorem lt4 {j : Nat} (h : j < 4) : j = 0 ∨ j = 1 ∨ j = 2 ∨ j = 3 := by omega
theorem lp_gen {p : Program} {l : Launch} {e : Env} {R : Room} {s : State} {m : MethodId} {args : Array Value} {below : List Frame} {meth : Method} {c : Code} {H : Heap} {locs : List Loc} {cells slots : Nat} {Q : State → Prop} {g : JFrame} (k : ∀ WW : Heap → List Loc → JFrame → Prop, (∀ (H : Heap) (locs : List Loc) (g : JFrame), WW H locs g ↔ W p l e R s m args below meth c H locs cells slots Q g) → WW H locs g) : W p l e R s m args below meth c H locs cells slots Q g := k _ (fun _ _ _ => Iff.rfl)
/-- three rows changed -/
def r3 (a1 a2 a3 : Nat) (H0 H : Heap) (locs : List Loc) : Prop := H.size = H0.size ∧ (∀ q : Nat, q ≠ a1 → q ≠ a2 → q ≠ a3 → H[q]? = H0[q]?) ∧ ∀ x ∈ locs, x.base = a1 ∨ x.base = a2 ∨ x.base = a3
theorem r3.put {a1 a2 a3 a k : Nat} {H0 H H1 : Heap} {locs : List Loc} (h : r3 a1 a2 a3 H0 H locs) (z : H1.size = H.size) (oq : ∀ q : Nat, q ≠ a → H1[q]? = H[q]?) (ha : a = a1 ∨ a = a2 ∨ a = a3) : r3 a1 a2 a3 H0 H1 (locs ++ [⟨a, k⟩]) := by
  refine ⟨z.trans h.1, fun q h1 h2 h3 => (oq q (by rcases ha with rfl | rfl | rfl <;> assumption)).trans (h.2.1 q h1 h2 h3), fun x hx => ?_⟩
  rcases List.mem_append.mp hx with g | g
  · exact h.2.2 x g
  · rw [List.mem_singleton.mp g]; exact ha
abbrev fgQ (D : va_G) (cI : ClassId) (a1 a2 a3 : Nat) : Array Value → State → Outcome → State → Prop := fun _ st oc u => oc = .returned none ∧ (∃ g1 g2 g3 : Nat → Int32, (va_at D vwCl (a1, .inl (cI, 4, .inl g1)) u.heap ∧ va_at D vwCl (a2, .inl (cI, 384, .inl g2)) u.heap ∧ va_at D vwCl (a3, .inl (cI, 2, .inl g3)) u.heap) ∧ (∀ j : Nat, j < 4 → g1 j = -4) ∧ (∀ j : Nat, j < 384 → g2 j = -1) ∧ ∀ j : Nat, j < 2 → g3 j = 0) ∧ u.heap.size = st.heap.size ∧ ∀ q : Nat, q ≠ a1 → q ≠ a2 → q ≠ a3 → u.heap[q]? = st.heap[q]?
abbrev fgP (D : va_G) (cI cL cC : ClassId) (o a1 a2 a3 : Nat) (fs : List Value) (f1 f2 f3 : Nat → Int32) : Array Value → State → Prop := va_Pc [.ref o] (fun U => (va_at D vwCl (o, .inr (9, fs)) U.heap ∧ va_at D vwCl (a1, .inl (cI, 4, .inl f1)) U.heap ∧ va_at D vwCl (a2, .inl (cI, 384, .inl f2)) U.heap ∧ va_at D vwCl (a3, .inl (cI, 2, .inl f3)) U.heap) ∧ EV D cI cL cC U)
section FG
variable {p : Program} {l : Launch} {e : Env} {R : Room} {s : State} {m : MethodId} {args : Array Value} {below : List Frame} {meth : Method} {c : Code} {H : Heap} {locs : List Loc} {cells slots : Nat} {Q : State → Prop}
variable {pc : Nat} {ls : Array Slot} {rest st0 : List Value} {D : va_G} {cI cL cC : ClassId} {ar : Array Value} {o a1 a2 a3 : Nat} {fs : List Value} {f1 f2 f3 : Nat → Int32} {H0 : Heap} {b : Nat}
theorem fg_call (hr : CallRun p l e R s m args below meth c H locs cells slots 0 0 (F0 m pc ls st0) rest (fgQ D cI a1 a2 a3 ar) (fun q => q = a1 ∨ q = a2 ∨ q = a3)) (hS : cF b H0 H locs) (hb : b ≤ a1 ∧ b ≤ a2 ∧ b ≤ a3)
    (kk : ∀ (H1 : Heap) (locs1 : List Loc) (g1 g2 g3 : Nat → Int32), va_at D vwCl (a1, .inl (cI, 4, .inl g1)) H1 → va_at D vwCl (a2, .inl (cI, 384, .inl g2)) H1 → va_at D vwCl (a3, .inl (cI, 2, .inl g3)) H1 → (∀ j : Nat, j < 4 → g1 j = -4) → (∀ j : Nat, j < 384 → g2 j = -1) → (∀ j : Nat, j < 2 → g3 j = 0) → H1.size = H.size → (∀ q : Nat, q ≠ a1 → q ≠ a2 → q ≠ a3 → H1[q]? = H[q]?) → cF b H0 H1 locs1 → W p l e R s m args below meth c H1 locs1 cells slots Q (F0 m (pc + 3) ls rest)) : W p l e R s m args below meth c H locs cells slots Q (F0 m pc ls st0) := by
  intro T hT X
  obtain ⟨v, st₀, u, T', L, h0, X', hL, e1, ⟨hv, ⟨g1, g2, g3, ⟨h1, h2, h3⟩, h4, h5, h6⟩, hz2, hk⟩, st⟩ := hr T hT X
  cases hv
  rw [h0] at hk hz2
  obtain ⟨t2, q1, q2⟩ := kk u.heap (locs ++ L) g1 g2 g3 h1 h2 h3 h4 h5 h6 hz2 hk ⟨by rw [hz2]; exact hS.1, fun q hq => (hk q (by omega) (by omega) (by omega)).trans (hS.2.1 q hq), fun x hx => by
      rcases List.mem_append.mp hx with h | h
      · exact hS.2.2 x h
      · rcases hL x h with h | h | h
        · rw [h]; exact hb.1
        · rw [h]; exact hb.2.1
        · rw [h]; exact hb.2.2⟩ T' e1 X'
  exact ⟨t2, st t2 q1, q2⟩
theorem fg_pre (h0 : va_at D vwCl (o, .inr (9, fs)) H) (h1 : va_at D vwCl (a1, .inl (cI, 4, .inl f1)) H) (h2 : va_at D vwCl (a2, .inl (cI, 384, .inl f2)) H) (h3 : va_at D vwCl (a3, .inl (cI, 2, .inl f3)) H) (hE : EV D cI cL cC s) : PreV s H RX10 o (fgP D cI cL cC o a1 a2 a3 fs f1 f2 f3) [] :=
  ⟨fun _ _ _ _ q => ⟨q.1, q.2.1, q.2.2.calling⟩, va_recv hE.1 (va_one h0) (ci := 9) (q := (RX10, TX10, 36)) rfl (q0 := 0) rfl, fun U hU hW => ⟨rfl, by rw [hU]; exact ⟨h0, h1, h2, h3⟩, hE.warm hW⟩⟩
end FG
theorem va_at.kept3 {D : va_G} {H H1 : Heap} {e : va_E} {b j1 j2 j3 : Nat} (k : Nat) (h : va_at D vwCl (b + k, e) H) (o : ∀ q : Nat, q ≠ b + j1 → q ≠ b + j2 → q ≠ b + j3 → H1[q]? = H[q]?) (hne : (k == j1 || k == j2 || k == j3) = false) : va_at D vwCl (b + k, e) H1 := h.kept (o (b + k) (by simp at hne; omega) (by simp at hne; omega) (by simp at hne; omega))
