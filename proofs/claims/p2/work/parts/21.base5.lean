/-! the reference: rows of calls with ghosts that the end names, numbers, and what its rows of ITEMS hold. Own rows. -/
section TXC
variable {Z : Type} {p : Program} {l : Launch} {e : Env} {R : Room} {s : State} {m : MethodId} {args : Array Value} {below : List Frame} {meth : Method} {c : Code} {H : Heap} {locs : List Loc} {cells slots : Nat} {Q : State → Prop}
variable {pc : Nat} {ls : Array Slot} {rest st0 : List Value} {D : va_G} {F2 : Z → tFT} {t : Nat → Nat} {wr wr2 : Nat → Bool} {H0 : Heap} {ar : Array Value}
theorem tx_calli {post : Int32 → Z → Prop} (hr : CallRun p l e R s m args below meth c H locs cells slots 0 0 (F0 m pc ls st0) rest (tQx D F2 t wr2 (xI post) ar) (fun q => wr2 (t q) = true)) (hS : tF t wr H0 H locs) (hsub : ∀ k, wr2 k = true → wr k = true)
    (kk : ∀ (r : Int32) (z : Z) (H1 : Heap) (locs1 : List Loc), post r z → tG D (F2 z) t H1 → tF t wr H0 H1 locs1 → (∀ q : Nat, wr2 (t q) = false → H1[q]? = H[q]?) → W p l e R s m args below meth c H1 locs1 cells slots Q (F0 m (pc + 3) ls (.int r :: rest))) : W p l e R s m args below meth c H locs cells slots Q (F0 m pc ls st0) :=
  tx_run hr hS hsub (fun v z H1 locs1 hp h1 h2 h3 => by obtain ⟨r, rfl, hp⟩ := hp; exact kk r z H1 locs1 hp h1 h2 h3)
theorem tx_calll {post : Int64 → Z → Prop} (hr : CallRun p l e R s m args below meth c H locs cells slots 0 0 (F0 m pc ls st0) rest (tQx D F2 t wr2 (xL post) ar) (fun q => wr2 (t q) = true)) (hS : tF t wr H0 H locs) (hsub : ∀ k, wr2 k = true → wr k = true)
    (kk : ∀ (r : Int64) (z : Z) (H1 : Heap) (locs1 : List Loc), post r z → tG D (F2 z) t H1 → tF t wr H0 H1 locs1 → (∀ q : Nat, wr2 (t q) = false → H1[q]? = H[q]?) → W p l e R s m args below meth c H1 locs1 cells slots Q (F0 m (pc + 3) ls (.long r :: rest))) : W p l e R s m args below meth c H locs cells slots Q (F0 m pc ls st0) :=
  tx_run hr hS hsub (fun v z H1 locs1 hp h1 h2 h3 => by obtain ⟨r, rfl, hp⟩ := hp; exact kk r z H1 locs1 hp h1 h2 h3)
theorem tx_callv {post : Z → Prop} (hr : CallRun p l e R s m args below meth c H locs cells slots 0 0 (F0 m pc ls st0) rest (tQx D F2 t wr2 (xV post) ar) (fun q => wr2 (t q) = true)) (hS : tF t wr H0 H locs) (hsub : ∀ k, wr2 k = true → wr k = true)
    (kk : ∀ (z : Z) (H1 : Heap) (locs1 : List Loc), post z → tG D (F2 z) t H1 → tF t wr H0 H1 locs1 → (∀ q : Nat, wr2 (t q) = false → H1[q]? = H[q]?) → W p l e R s m args below meth c H1 locs1 cells slots Q (F0 m (pc + 3) ls rest)) : W p l e R s m args below meth c H locs cells slots Q (F0 m pc ls st0) :=
  tx_run hr hS hsub (fun v z H1 locs1 hp h1 h2 h3 => by obtain ⟨rfl, hp⟩ := hp; exact kk z H1 locs1 hp h1 h2 h3)
end TXC
/-! numbers -/
theorem q_lit {x : Int32} {n : Int} (h : x.toInt = n) (k : Int32) (hk : k.toInt = n) : x = k := Int32.toInt_inj.mp (h.trans hk.symm)
theorem q_remE {x y : Int32} {n : Nat} (hy : y = nI n) (h0 : 0 < n ∧ n < 2 ^ 31) (hx : 0 ≤ x.toInt) : (x - x / y * y).toInt = x.toInt % (n : Int) := by
  obtain ⟨j, hj, rfl⟩ := nI_of (x := x) (fun h => by have := q_lt h; rw [show (0 : Int32).toInt = 0 by decide] at this; omega)
  subst hy
  rw [pk_rem hj h0.1 h0.2]
  have hm : j % n < n := Nat.mod_lt _ h0.1
  rw [nI_toInt (by omega), nI_toInt hj]
  omega
theorem q_divE {x y : Int32} {n : Nat} (hy : y = nI n) (h0 : 0 < n ∧ n < 2 ^ 31) (hx : 0 ≤ x.toInt) : (x / y).toInt = x.toInt / (n : Int) := by
  obtain ⟨j, hj, rfl⟩ := nI_of (x := x) (fun h => by have := q_lt h; rw [show (0 : Int32).toInt = 0 by decide] at this; omega)
  subst hy
  rw [pk_div hj h0.1 h0.2]
  have hm : j / n ≤ j := Nat.div_le_self _ _
  rw [nI_toInt (by omega), nI_toInt hj]
  omega
theorem qL_add {x y : Int64} (h1 : -9223372036854775808 ≤ x.toInt + y.toInt) (h2 : x.toInt + y.toInt ≤ 9223372036854775807) : (x + y).toInt = x.toInt + y.toInt := by
  rw [Int64.toInt_add]
  exact Int.bmod_eq_of_le (by omega) (by omega)
theorem q_l2i {x : Int64} (h1 : -2147483648 ≤ x.toInt) (h2 : x.toInt ≤ 2147483647) : x.toInt32.toInt = x.toInt := by
  rw [Int64.toInt_toInt32]
  exact Int.bmod_eq_of_le (by omega) (by omega)
theorem q_cl (x : Int32) : x.toNatClampNeg = x.toInt.toNat := rfl
theorem q_clE {x : Int32} {n : Int} (h : x.toInt = n) : x.toNatClampNeg = n.toNat := congrArg Int.toNat h
/-! an HOUR among the longs -/
def gHr (h : Int) (f : Nat → Int64) : Prop := (f 231).toInt = h
theorem gHr_ne {h : Int} {f : Nat → Int64} {i : Int32} {x : Int64} (hi : 0 ≤ i.toInt ∧ i.toInt ≠ 231) (hf : gHr h f) : gHr h (vp_updL f i.toNatClampNeg x) := by
  have h1 : 231 ≠ i.toNatClampNeg := by rw [q_cl]; omega
  unfold gHr
  rw [pk_uLn h1]
  exact hf
theorem gHr_eq {h : Int} {f : Nat → Int64} {i : Int32} {x : Int64} (hi : i.toInt = 231) (hx : x.toInt = h) : gHr h (vp_updL f i.toNatClampNeg x) := by
  have h1 : i.toNatClampNeg = 231 := by rw [q_cl]; omega
  unfold gHr
  rw [h1, pk_uLs]
  exact hx
theorem gHr_ex {h : Int} {f : Nat → Int64} (i : Int32) (x : Int64) (hi : 0 ≤ i.toInt) (hf : gHr h f) : ∃ h' : Int, gHr h' (vp_updL f i.toNatClampNeg x) ∧ ((i.toInt ≠ 231 ∧ h' = h) ∨ (i.toInt = 231 ∧ h' = x.toInt)) := by
  by_cases e : i.toInt = 231
  · exact ⟨x.toInt, gHr_eq e rfl, Or.inr ⟨e, rfl⟩⟩
  · exact ⟨h, gHr_ne ⟨hi, e⟩ hf, Or.inl ⟨e, rfl⟩⟩
theorem gHr_ld {h : Int} {f : Nat → Int64} {i : Int32} (hf : gHr h f) : i.toInt = 231 → (f i.toNatClampNeg).toInt = h := fun e => by
  rw [show i.toNatClampNeg = 231 by rw [q_cl]; omega]
  exact hf
def gKp (f : Nat → Int64) : Prop := ∀ j : Nat, j = 231 ∨ j = 511 ∨ j = 791 → 0 ≤ (f j).toInt ∧ (f j).toInt ≤ 96
theorem gKp_upd {f : Nat → Int64} {i : Int32} {x : Int64} (hi : 0 ≤ i.toInt) (h : gKp f) (hx : i.toInt = 231 ∨ i.toInt = 511 ∨ i.toInt = 791 → 0 ≤ x.toInt ∧ x.toInt ≤ 96) : gKp (vp_updL f i.toNatClampNeg x) := fun j hj => by
  by_cases e : j = i.toNatClampNeg
  · rw [e, pk_uLs]
    rw [q_cl] at e
    exact hx (by omega)
  · rw [pk_uLn e]
    exact h j hj
theorem gKp_ld {f : Nat → Int64} {i : Int32} (h : gKp f) : i.toInt = 231 ∨ i.toInt = 511 ∨ i.toInt = 791 → 0 ≤ (f i.toNatClampNeg).toInt ∧ (f i.toNatClampNeg).toInt ≤ 96 := fun e => h _ (by rw [q_cl]; omega)
/-! rows whose numbers lie between two bounds -/
def gBd (n : Nat) (lo hi : Int) (f : Nat → Int32) : Prop := ∀ j : Nat, j < n → lo ≤ (f j).toInt ∧ (f j).toInt ≤ hi
theorem gBd_upd {n : Nat} {lo hi : Int} {f : Nat → Int32} {i : Nat} {x : Int32} (h : gBd n lo hi f) (hx : lo ≤ x.toInt ∧ x.toInt ≤ hi) : gBd n lo hi (upd f i x) := fun j hj => by
  unfold upd
  split
  · exact hx
  · exact h j hj
/-! what the rows of ITEMS hold: b where the MODEL begins, n how many -/
def hasS (K F : Nat → Int32) (b n : Int) (x : Int32) : Prop := ∃ j : Int, 0 ≤ j ∧ j < n ∧ (K (b + j).toNat).toInt = 115 ∧ F (b + j).toNat = x
def okI (K F S N : Nat → Int32) (b n j : Int) : Prop := 0 ≤ (F (b + j).toNat).toInt ∧ (F (b + j).toNat).toInt ≤ 15 ∧ ((S (b + j).toNat).toInt = -4 ∨ 0 ≤ (S (b + j).toNat).toInt) ∧ (S (b + j).toNat).toInt ≤ 15 ∧ ((K (b + j).toNat).toInt = 108 → 1 ≤ (N (3 * (b + j) + 1).toNat).toInt) ∧ ((K (b + j).toNat).toInt = 116 → 0 ≤ (S (b + j).toNat).toInt ∧ 0 ≤ (N (3 * (b + j)).toNat).toInt ∧ (N (3 * (b + j)).toNat).toInt ≤ 12) ∧ ((K (b + j).toNat).toInt = 111 → hasS K F b n (F (b + j).toNat))
def okM (K F S N : Nat → Int32) (b n : Int) : Prop := ∀ j : Int, 0 ≤ j → j < n → okI K F S N b n j
theorem hasS.mono {K F : Nat → Int32} {b n n' : Int} {x : Int32} (hn : n ≤ n') (h : hasS K F b n x) : hasS K F b n' x := by
  obtain ⟨j, h0, h1, h2, h3⟩ := h
  exact ⟨j, h0, by omega, h2, h3⟩
/-- the same ITEMS at another place -/
theorem hasS.cp {K F K' F' : Nat → Int32} {b b' n : Int} {x : Int32} (eK : ∀ j : Int, 0 ≤ j → j < n → K' (b' + j).toNat = K (b + j).toNat) (eF : ∀ j : Int, 0 ≤ j → j < n → F' (b' + j).toNat = F (b + j).toNat) (h : hasS K F b n x) : hasS K' F' b' n x := by
  obtain ⟨j, h0, h1, h2, h3⟩ := h
  exact ⟨j, h0, h1, by rw [eK j h0 h1]; exact h2, by rw [eF j h0 h1]; exact h3⟩
theorem okM.cp {K F S N K' F' S' N' : Nat → Int32} {b b' n : Int} (eK : ∀ j : Int, 0 ≤ j → j < n → K' (b' + j).toNat = K (b + j).toNat) (eF : ∀ j : Int, 0 ≤ j → j < n → F' (b' + j).toNat = F (b + j).toNat) (eS : ∀ j : Int, 0 ≤ j → j < n → S' (b' + j).toNat = S (b + j).toNat) (eN : ∀ j : Int, 0 ≤ j → j < 3 * n → N' (3 * b' + j).toNat = N (3 * b + j).toNat) (h : okM K F S N b n) : okM K' F' S' N' b' n := fun j h0 h1 => by
  obtain ⟨o1, o2, o3, o4, o5, o6, o7⟩ := h j h0 h1
  have n0 : N' (3 * (b' + j)).toNat = N (3 * (b + j)).toNat := by
    have := eN (3 * j) (by omega) (by omega)
    rw [show 3 * (b' + j) = 3 * b' + 3 * j by omega, show 3 * (b + j) = 3 * b + 3 * j by omega]
    exact this
  have n1 : N' (3 * (b' + j) + 1).toNat = N (3 * (b + j) + 1).toNat := by
    have := eN (3 * j + 1) (by omega) (by omega)
    rw [show 3 * (b' + j) + 1 = 3 * b' + (3 * j + 1) by omega, show 3 * (b + j) + 1 = 3 * b + (3 * j + 1) by omega]
    exact this
  unfold okI
  rw [eK j h0 h1, eF j h0 h1, eS j h0 h1, n0, n1]
  exact ⟨o1, o2, o3, o4, o5, o6, fun q => (o7 q).cp eK eF⟩
/-- a stretch is copied, the rest stays -/
def cpd (f f' : Nat → Int32) (a b n : Int) : Prop := (∀ j : Int, 0 ≤ j → j < n → f' (a + j).toNat = f (b + j).toNat) ∧ ∀ j : Int, 0 ≤ j → j < a ∨ a + n ≤ j → f' j.toNat = f j.toNat
theorem cpd.zero {f : Nat → Int32} {a b : Int} : cpd f f a b 0 := ⟨fun j h0 h1 => by omega, fun _ _ _ => rfl⟩
theorem cpd.step {f g g' : Nat → Int32} {a b n : Int} {x : Int32} {i : Int} (h : cpd f g a b n) (hn : 0 ≤ n) (ha : 0 ≤ a) (hb : 0 ≤ b) (hd : b + n < a ∨ a + n ≤ b) (hx : x = g (b + n).toNat) (hi : i = a + n) (e : g' = upd g i.toNat x) : cpd f g' a b (n + 1) := by
  subst e; subst hi; subst hx
  refine ⟨fun j h0 h1 => ?_, fun j h0 h1 => ?_⟩
  · by_cases q : j = n
    · subst q
      rw [pk_us]
      exact h.2 _ (by omega) (by omega)
    · rw [pk_un (by omega)]
      exact h.1 j h0 (by omega)
  · rw [pk_un (by omega)]
    exact h.2 j h0 (by omega)
theorem cpd.at {f g : Nat → Int32} {a b n n' : Int} (h : cpd f g a b n) (e : n = n') : cpd f g a b n' := e ▸ h
theorem okM.cpy {K F S N K' F' S' N' : Nat → Int32} {a b a3 b3 n : Int} (e1 : a3 = 3 * a) (e2 : b3 = 3 * b) (hn : n ≤ 40) (hK : cpd K K' a b 40) (hF : cpd F F' a b 40) (hS : cpd S S' a b 40) (hN : cpd N N' a3 b3 120) (h : okM K F S N b n) : okM K' F' S' N' a n := by
  subst e1; subst e2
  exact h.cp (fun j h0 h1 => hK.1 j h0 (by omega)) (fun j h0 h1 => hF.1 j h0 (by omega)) (fun j h0 h1 => hS.1 j h0 (by omega)) (fun j h0 h1 => hN.1 j h0 (by omega))
/-- only TRIED changes -/
def kpO (f f' : Nat → Int32) (a n : Int) : Prop := ∀ j : Int, 0 ≤ j → j < a ∨ a + n ≤ j → f' j.toNat = f j.toNat
theorem kpO.rf {f : Nat → Int32} {a n : Int} : kpO f f a n := fun _ _ _ => rfl
theorem kpO.tr {f g k : Nat → Int32} {a n : Int} (h1 : kpO f g a n) (h2 : kpO g k a n) : kpO f k a n := fun j h0 hj => (h2 j h0 hj).trans (h1 j h0 hj)
theorem kpO.upd {f g g' : Nat → Int32} {a n i : Int} {x : Int32} (h : kpO f g a n) (ha : 0 ≤ a) (hi : a ≤ i ∧ i < a + n) (e : g' = upd g i.toNat x) : kpO f g' a n := fun j h0 hj => by
  subst e
  rw [pk_un (by omega)]
  exact h j h0 hj
theorem okM.kp {K F S N K' F' S' N' : Nat → Int32} {b n : Int} (h0 : 0 ≤ b) (hb : b + n ≤ 40 ∨ 80 ≤ b) (hK : kpO K K' 40 40) (hF : kpO F F' 40 40) (hS : kpO S S' 40 40) (hN : kpO N N' 120 120) (h : okM K F S N b n) : okM K' F' S' N' b n :=
  h.cp (fun j q0 q1 => hK _ (by omega) (by omega)) (fun j q0 q1 => hF _ (by omega) (by omega)) (fun j q0 q1 => hS _ (by omega) (by omega)) (fun j q0 q1 => hN _ (by omega) (by omega))
def welM (K N : Nat → Int32) (b n : Int) : Prop := ∀ j : Int, 0 ≤ j → j < n → ((K (b + j).toNat).toInt = 108 → 1 ≤ (N (3 * (b + j) + 1).toNat).toInt) ∧ ((K (b + j).toNat).toInt = 116 → 0 ≤ (N (3 * (b + j)).toNat).toInt ∧ (N (3 * (b + j)).toNat).toInt ≤ 12)
theorem welM.zero {K N : Nat → Int32} {b : Int} : welM K N b 0 := fun j h0 h1 => by omega
theorem welM.step {K N : Nat → Int32} {b n : Int} (h : welM K N b n) (h1 : (K (b + n).toNat).toInt = 108 → 1 ≤ (N (3 * (b + n) + 1).toNat).toInt) (h2 : (K (b + n).toNat).toInt = 116 → 0 ≤ (N (3 * (b + n)).toNat).toInt ∧ (N (3 * (b + n)).toNat).toInt ≤ 12) : welM K N b (n + 1) := fun j q0 q1 => by
  by_cases e : j = n
  · subst e; exact ⟨h1, h2⟩
  · exact h j q0 (by omega)
theorem okM.tried {K F S N K' F' S' N' : Nat → Int32} {n : Int} (hn : n ≤ 40) (hK : cpd K K' 40 0 40) (hF : cpd F F' 40 0 40) (hS : cpd S S' 40 0 40) (hw : welM K' N' 40 n) (h : okM K F S N 0 n) : okM K' F' S' N' 40 n := fun j h0 h1 => by
  obtain ⟨o1, o2, o3, o4, o5, o6, o7⟩ := h j h0 h1
  obtain ⟨w1, w2⟩ := hw j h0 h1
  have eK := hK.1 j h0 (by omega)
  have eF := hF.1 j h0 (by omega)
  have eS := hS.1 j h0 (by omega)
  refine ⟨by rw [eF]; exact o1, by rw [eF]; exact o2, by rw [eS]; exact o3, by rw [eS]; exact o4, w1, fun q => ⟨?_, w2 q⟩, fun q => ?_⟩
  · rw [eS]; rw [eK] at q; exact (o6 q).1
  · rw [eF]; rw [eK] at q
    exact (o7 q).cp (fun j q0 q1 => hK.1 j q0 (by omega)) (fun j q0 q1 => hF.1 j q0 (by omega))
/-! facts that omega does not open -/
def itOk (k f s r0 r1 : Int32) : Prop := 0 ≤ f.toInt ∧ f.toInt ≤ 15 ∧ (s.toInt = -4 ∨ 0 ≤ s.toInt) ∧ s.toInt ≤ 15 ∧ (k.toInt = 108 → 1 ≤ r1.toInt) ∧ (k.toInt = 116 → 0 ≤ s.toInt ∧ 0 ≤ r0.toInt ∧ r0.toInt ≤ 12)
def weOk (k a b : Int32) : Prop := (k.toInt = 108 → 1 ≤ b.toInt) ∧ (k.toInt = 116 → 0 ≤ a.toInt ∧ a.toInt ≤ 12)
def hsI (r : Int32) (P : Prop) : Prop := 0 ≤ r.toInt ↔ P
def swM (g : Int32) (K F S N : Nat → Int32) (n : Int) : Prop := g.toInt = 0 ∨ okM K F S N 80 n
/-- one ITEM is laid -/
theorem hasS.lay {K F K' F' : Nat → Int32} {b n : Int} {k f x : Int32} (hb : 0 ≤ b) (eK : K' = upd K (b + n).toNat k) (eF : F' = upd F (b + n).toNat f) (h : hasS K F b n x) : hasS K' F' b (n + 1) x := by
  obtain ⟨j, h0, h1, h2, h3⟩ := h
  subst eK; subst eF
  exact ⟨j, h0, by omega, by rw [pk_un (by omega)]; exact h2, by rw [pk_un (by omega)]; exact h3⟩
theorem hasS.new {K F K' F' : Nat → Int32} {b n : Int} {k f : Int32} (hn : 0 ≤ n) (eK : K' = upd K (b + n).toNat k) (eF : F' = upd F (b + n).toNat f) (hk : k.toInt = 115) : hasS K' F' b (n + 1) f := by
  subst eK; subst eF
  exact ⟨n, hn, by omega, by rw [pk_us]; exact hk, pk_us⟩
theorem okM.lay {K F S N K' F' S' N' : Nat → Int32} {b n : Int} {k f s r0 r1 r2 : Int32} (hb : 0 ≤ b) (hn : 0 ≤ n) (eK : K' = upd K (b + n).toNat k) (eF : F' = upd F (b + n).toNat f) (eS : S' = upd S (b + n).toNat s) (eN : N' = upd (upd (upd N (3 * (b + n)).toNat r0) (3 * (b + n) + 1).toNat r1) (3 * (b + n) + 2).toNat r2) (h : okM K F S N b n)
    (it : itOk k f s r0 r1) (i7 : k.toInt = 111 → hasS K F b n f) : okM K' F' S' N' b (n + 1) := fun j h0 h1 => by
  obtain ⟨i1, i2, i3, i4, i5, i6⟩ := it
  by_cases e : j = n
  · subst e
    have k1 : K' (b + j).toNat = k := by rw [eK, pk_us]
    have f1 : F' (b + j).toNat = f := by rw [eF, pk_us]
    have s1 : S' (b + j).toNat = s := by rw [eS, pk_us]
    have n0 : N' (3 * (b + j)).toNat = r0 := by rw [eN, pk_un (by omega), pk_un (by omega), pk_us]
    have n1 : N' (3 * (b + j) + 1).toNat = r1 := by rw [eN, pk_un (by omega), pk_us]
    unfold okI
    rw [k1, f1, s1, n0, n1]
    exact ⟨i1, i2, i3, i4, i5, i6, fun q => (i7 q).lay hb eK eF⟩
  · obtain ⟨o1, o2, o3, o4, o5, o6, o7⟩ := h j h0 (by omega)
    have k1 : K' (b + j).toNat = K (b + j).toNat := by rw [eK, pk_un (by omega)]
    have f1 : F' (b + j).toNat = F (b + j).toNat := by rw [eF, pk_un (by omega)]
    have s1 : S' (b + j).toNat = S (b + j).toNat := by rw [eS, pk_un (by omega)]
    have n0 : N' (3 * (b + j)).toNat = N (3 * (b + j)).toNat := by rw [eN, pk_un (by omega), pk_un (by omega), pk_un (by omega)]
    have n1 : N' (3 * (b + j) + 1).toNat = N (3 * (b + j) + 1).toNat := by rw [eN, pk_un (by omega), pk_un (by omega), pk_un (by omega)]
    unfold okI
    rw [k1, f1, s1, n0, n1]
    exact ⟨o1, o2, o3, o4, o5, o6, fun q => (o7 q).lay hb eK eF⟩
/-- one ITEM is laid in place of another -/
theorem okM.swp {K F S N K' F' S' N' : Nat → Int32} {b n i : Int} {k f s r0 r1 r2 : Int32} (hb : 0 ≤ b) (hi : 0 ≤ i ∧ i < n) (eK : K' = upd K (b + i).toNat k) (eF : F' = upd F (b + i).toNat f) (eS : S' = upd S (b + i).toNat s) (eN : N' = upd (upd (upd N (3 * (b + i)).toNat r0) (3 * (b + i) + 1).toNat r1) (3 * (b + i) + 2).toNat r2) (h : okM K F S N b n)
    (hk : (K (b + i).toNat).toInt = 115 → k.toInt = 115 ∧ f = F (b + i).toNat)
    (it : itOk k f s r0 r1) (i7 : k.toInt = 111 → hasS K F b n f) : okM K' F' S' N' b n := by
  obtain ⟨i1, i2, i3, i4, i5, i6⟩ := it
  have hs : ∀ x : Int32, hasS K F b n x → hasS K' F' b n x := fun x q => by
    obtain ⟨j, h0, h1, h2, h3⟩ := q
    by_cases e : j = i
    · subst e
      obtain ⟨a1, a2⟩ := hk h2
      exact ⟨j, h0, h1, by rw [eK, pk_us]; exact a1, by rw [eF, pk_us, a2]; exact h3⟩
    · exact ⟨j, h0, h1, by rw [eK, pk_un (by omega)]; exact h2, by rw [eF, pk_un (by omega)]; exact h3⟩
  intro j h0 h1
  by_cases e : j = i
  · subst e
    have k1 : K' (b + j).toNat = k := by rw [eK, pk_us]
    have f1 : F' (b + j).toNat = f := by rw [eF, pk_us]
    have s1 : S' (b + j).toNat = s := by rw [eS, pk_us]
    have n0 : N' (3 * (b + j)).toNat = r0 := by rw [eN, pk_un (by omega), pk_un (by omega), pk_us]
    have n1 : N' (3 * (b + j) + 1).toNat = r1 := by rw [eN, pk_un (by omega), pk_us]
    unfold okI
    rw [k1, f1, s1, n0, n1]
    exact ⟨i1, i2, i3, i4, i5, i6, fun q => hs _ (i7 q)⟩
  · obtain ⟨o1, o2, o3, o4, o5, o6, o7⟩ := h j h0 h1
    have k1 : K' (b + j).toNat = K (b + j).toNat := by rw [eK, pk_un (by omega)]
    have f1 : F' (b + j).toNat = F (b + j).toNat := by rw [eF, pk_un (by omega)]
    have s1 : S' (b + j).toNat = S (b + j).toNat := by rw [eS, pk_un (by omega)]
    have n0 : N' (3 * (b + j)).toNat = N (3 * (b + j)).toNat := by rw [eN, pk_un (by omega), pk_un (by omega), pk_un (by omega)]
    have n1 : N' (3 * (b + j) + 1).toNat = N (3 * (b + j) + 1).toNat := by rw [eN, pk_un (by omega), pk_un (by omega), pk_un (by omega)]
    unfold okI
    rw [k1, f1, s1, n0, n1]
    exact ⟨o1, o2, o3, o4, o5, o6, fun q => hs _ (o7 q)⟩
/-! NAMES as bits -/
def bitI (n f : Int32) : Int32 := (n >>> (f &&& 31)) &&& 1
def orB (n f : Int32) : Int32 := n ||| ((1 : Int32) <<< (f &&& 31))
theorem bit_eq (n : Int32) (k : Nat) (hk : k < 16) : (bitI n (nI k)).toInt = if n.toBitVec.getLsbD k then 1 else 0 := by
  unfold bitI
  have e1 : ((nI k &&& 31).toBitVec.smod 32).toNat = k := by
    revert hk; revert k; decide +kernel
  have e2 : (n >>> (nI k &&& 31)).toBitVec = n.toBitVec.sshiftRight k := by
    show BitVec.sshiftRight' n.toBitVec ((nI k &&& 31).toBitVec.smod 32) = _
    unfold BitVec.sshiftRight'
    rw [e1]
  rw [pk_and _ (m := 1) 1 (by decide), e2]
  rw [nI_toInt (by have := Nat.mod_lt (n.toBitVec.sshiftRight k).toNat (show 0 < 2 ^ 1 by decide); omega)]
  have e3 : (n.toBitVec.sshiftRight k).toNat % 2 ^ 1 = if n.toBitVec.getLsbD k then 1 else 0 := by
    have e4 : (n.toBitVec.sshiftRight k).getLsbD 0 = n.toBitVec.getLsbD k := by
      rw [BitVec.getLsbD_sshiftRight]
      simp
      omega
    rw [← e4]
    simp only [BitVec.getLsbD, Nat.testBit_zero]
    rcases Nat.mod_two_eq_zero_or_one (n.toBitVec.sshiftRight k).toNat with h | h <;> simp [h]
  rw [e3]
  split <;> rfl
theorem bit_or {n f g : Int32} (f0 : 0 ≤ f.toInt) (f1 : f.toInt ≤ 15) (g0 : 0 ≤ g.toInt) (g1 : g.toInt ≤ 15) : (bitI (orB n f) g).toInt = 1 ↔ (bitI n g).toInt = 1 ∨ f = g := by
  obtain ⟨a, ha, rfl⟩ := nI_of (x := f) (fun h => by have := q_lt h; rw [show (0 : Int32).toInt = 0 by decide] at this; omega)
  obtain ⟨b, hb, rfl⟩ := nI_of (x := g) (fun h => by have := q_lt h; rw [show (0 : Int32).toInt = 0 by decide] at this; omega)
  rw [nI_toInt ha] at f1
  rw [nI_toInt hb] at g1
  rw [bit_eq _ b (by omega), bit_eq _ b (by omega), nI_eq ha hb]
  have e1 : (orB n (nI a)).toBitVec.getLsbD b = (n.toBitVec.getLsbD b || decide (a = b)) := by
    unfold orB
    rw [show (n ||| ((1 : Int32) <<< (nI a &&& 31))).toBitVec = n.toBitVec ||| ((1 : Int32) <<< (nI a &&& 31)).toBitVec from rfl, BitVec.getLsbD_or]
    congr 1
    have : ∀ a : Nat, a < 16 → ∀ b : Nat, b < 16 → ((1 : Int32) <<< (nI a &&& 31)).toBitVec.getLsbD b = decide (a = b) := by decide +kernel
    exact this a (by omega) b (by omega)
  rw [e1]
  by_cases h1 : n.toBitVec.getLsbD b <;> by_cases h2 : a = b <;> simp [h1, h2]
theorem bit_0 {g : Int32} (g0 : 0 ≤ g.toInt) (g1 : g.toInt ≤ 15) : ¬ (bitI 0 g).toInt = 1 := by
  obtain ⟨b, hb, rfl⟩ := nI_of (x := g) (fun h => by have := q_lt h; rw [show (0 : Int32).toInt = 0 by decide] at this; omega)
  rw [nI_toInt hb] at g1
  rw [bit_eq _ b (by omega)]
  simp
theorem or_0 (n : Int32) : n ||| 0 = n := by
  apply Int32.toBitVec_inj.mp
  show n.toBitVec ||| 0 = n.toBitVec
  simp
/-- the NAMES that the bits tell are those of STORES -/
def nmS (K F : Nat → Int32) (b n : Int) (x : Int32) : Prop := ∀ g : Int32, 0 ≤ g.toInt → g.toInt ≤ 15 → (bitI x g).toInt = 1 → hasS K F b n g
def nmOk (k f n : Int32) : Prop := k.toInt ≠ 115 → (bitI n f).toInt = 1
theorem nmS.zero {K F : Nat → Int32} {b n : Int} : nmS K F b n 0 := fun g g0 g1 h => absurd h (bit_0 g0 g1)
theorem nmS.lay {K F K' F' : Nat → Int32} {b n : Int} {x k f : Int32} (hb : 0 ≤ b) (eK : K' = upd K (b + n).toNat k) (eF : F' = upd F (b + n).toNat f) (h : nmS K F b n x) : nmS K' F' b (n + 1) x := fun g g0 g1 q => (h g g0 g1 q).lay hb eK eF
theorem nmS.layS {K F K' F' : Nat → Int32} {b n : Int} {x k f : Int32} (hb : 0 ≤ b) (hn : 0 ≤ n) (f0 : 0 ≤ f.toInt) (f1 : f.toInt ≤ 15) (eK : K' = upd K (b + n).toNat k) (eF : F' = upd F (b + n).toNat f) (hk : k.toInt = 115) (h : nmS K F b n x) : nmS K' F' b (n + 1) (orB x f) := fun g g0 g1 q => by
  rcases (bit_or f0 f1 g0 g1).mp q with h1 | h1
  · exact (h g g0 g1 h1).lay hb eK eF
  · rw [← h1]; exact hasS.new hn eK eF hk
theorem nmS.step {K F : Nat → Int32} {b n : Int} {x : Int32} (h : nmS K F b n x) : nmS K F b (n + 1) x := fun g g0 g1 q => (h g g0 g1 q).mono (by omega)
theorem nmS.stepS {K F : Nat → Int32} {b n : Int} {x f : Int32} (hn : 0 ≤ n) (f0 : 0 ≤ f.toInt) (f1 : f.toInt ≤ 15) (hk : (K (b + n).toNat).toInt = 115) (hf : F (b + n).toNat = f) (h : nmS K F b n x) : nmS K F b (n + 1) (orB x f) := fun g g0 g1 q => by
  rcases (bit_or f0 f1 g0 g1).mp q with h1 | h1
  · exact (h g g0 g1 h1).mono (by omega)
  · rw [← h1]; exact ⟨n, hn, by omega, hk, hf⟩
/-! bytes of the TEXT -/
def bA (T : Nat → Int32) (n i : Int32) : Int32 := if i.toInt < n.toInt then T i.toNatClampNeg else -1
theorem qL_nz {y : Int64} (h : 1 ≤ y.toInt) : ¬ y = 0 := fun e => by rw [e, show (0 : Int64).toInt = 0 by decide] at h; omega
/-! a STORE of a NAME among the first ITEMS -/
theorem hs_hit {K F : Nat → Int32} {M n : Int} {i x : Int32} (h0 : 0 ≤ i.toInt) (hk : (K (M + i.toInt).toNat).toInt = 115) (hf : (F (M + i.toInt).toNat).toInt = x.toInt) (hn : n = i.toInt + 1) : hsI i (hasS K F M n x) :=
  ⟨fun _ => ⟨i.toInt, h0, by omega, hk, Int32.toInt_inj.mp hf⟩, fun _ => h0⟩
theorem hs_init {K F : Nat → Int32} {M n : Int} {x y : Int32} (hy : y.toInt < 0) (hn : n = 0) : hsI y (hasS K F M n x) := ⟨fun h => absurd h (by omega), fun ⟨j, h0, h1, _, _⟩ => by omega⟩
theorem hs_miss {K F : Nat → Int32} {y : Int32} {M i n : Int} {x : Int32} (h : hsI y (hasS K F M i x)) (hn : n = i + 1) (hne : ¬ ((K (M + i).toNat).toInt = 115 ∧ (F (M + i).toNat).toInt = x.toInt)) : hsI y (hasS K F M n x) := by
  subst hn
  unfold hsI at *
  rw [h]
  refine ⟨fun q => q.mono (by omega), fun ⟨j, h0, h1, h2, h3⟩ => ?_⟩
  by_cases e : j = i
  · subst e; exact absurd ⟨h2, by rw [h3]⟩ hne
  · exact ⟨j, h0, by omega, h2, h3⟩
/-- other places stay: a stretch of 40 from a on has changed -/
theorem okM.kpg {K F S N K' F' S' N' : Nat → Int32} {a a3 b n : Int} (e : a3 = 3 * a) (h0 : 0 ≤ b) (hb : b + n ≤ a ∨ a + 40 ≤ b) (hK : kpO K K' a 40) (hF : kpO F F' a 40) (hS : kpO S S' a 40) (hN : kpO N N' a3 120) (h : okM K F S N b n) : okM K' F' S' N' b n := by
  subst e
  exact h.cp (fun j q0 q1 => hK _ (by omega) (by omega)) (fun j q0 q1 => hF _ (by omega) (by omega)) (fun j q0 q1 => hS _ (by omega) (by omega)) (fun j q0 q1 => hN _ (by omega) (by omega))
