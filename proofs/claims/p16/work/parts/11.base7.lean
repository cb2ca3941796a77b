/-! views of a typed heap: rows for calls. Own rows. -/
theorem tG.vw {D : va_G} {F F' : tFT} {t : Nat → Nat} {rho : Nat → Nat} {H : Heap} (h : tG D F t H) (hF : ∀ {k : Nat} {e : va_E}, rho k ≠ 0 → F t k e → F' (fun q => rho (t q)) (rho k) e) (h0 : rho 0 = 0) : tG D F' (fun q => rho (t q)) H := fun a ha => by
  have h1 : t a ≠ 0 := fun q => ha (by show rho (t a) = 0; rw [q]; exact h0)
  obtain ⟨e, h2, h3⟩ := h a h1
  exact ⟨e, h2, hF ha h3⟩
theorem tG.unvw {D : va_G} {F F' F2 : tFT} {t : Nat → Nat} {rho : Nat → Nat} {wr : Nat → Bool} {H H1 : Heap} (h : tG D F t H) (h' : tG D F' (fun q => rho (t q)) H1) (fr : ∀ q : Nat, wr (rho (t q)) = false → H1[q]? = H[q]?) (w0 : wr 0 = false) (hb : ∀ {k : Nat} {e : va_E}, wr (rho k) = true → F' (fun q => rho (t q)) (rho k) e → F2 t k e) (ho : ∀ {k : Nat} {e : va_E}, wr (rho k) = false → F t k e → F2 t k e) : tG D F2 t H1 := fun a ha => by
  cases hw : wr (rho (t a)) with
  | true =>
    obtain ⟨e, h1, h2⟩ := h' a (fun q => by have q : rho (t a) = 0 := q; rw [q, w0] at hw; cases hw)
    exact ⟨e, h1, hb hw h2⟩
  | false =>
    obtain ⟨e, h1, h2⟩ := h a ha
    exact ⟨e, h1.kept (fr a hw), ho hw h2⟩
section TVC
variable {Z : Type} {p : Program} {l : Launch} {e : Env} {R : Room} {s : State} {m : MethodId} {args : Array Value} {below : List Frame} {meth : Method} {c : Code} {H : Heap} {locs : List Loc} {cells slots : Nat} {Q : State → Prop}
variable {pc : Nat} {ls : Array Slot} {rest st0 : List Value} {D : va_G} {F2 : Z → tFT} {F3 : tFT} {t tv : Nat → Nat} {wr wr2 : Nat → Bool} {H0 : Heap} {ar : Array Value}
theorem tv_run {post : Option Value → Z → Prop} (hr : CallRun p l e R s m args below meth c H locs cells slots 0 0 (F0 m pc ls st0) rest (tQx D F2 tv wr2 post ar) (fun q => wr2 (tv q) = true)) (hS : tF t wr H0 H locs) (hsub : ∀ q : Nat, wr2 (tv q) = true → wr (t q) = true)
    (kk : ∀ (v : Option Value) (z : Z) (H1 : Heap) (locs1 : List Loc), post v z → tG D (F2 z) tv H1 → tF t wr H0 H1 locs1 → (∀ q : Nat, wr2 (tv q) = false → H1[q]? = H[q]?) → W p l e R s m args below meth c H1 locs1 cells slots Q (F0 m (pc + 3) ls (v.toList ++ rest))) : W p l e R s m args below meth c H locs cells slots Q (F0 m pc ls st0) := by
  intro T hT X
  obtain ⟨v, st₀, u, T', L, h0, X', hL, e1, ⟨⟨v', z, hv, hp, hG⟩, hz, hk⟩, st⟩ := hr T hT X
  cases hv
  rw [h0] at hz hk
  obtain ⟨t2, a1, b1⟩ := kk v z u.heap (locs ++ L) hp hG ⟨hz.trans hS.1, fun q hq => (hk q (by cases h : wr2 (tv q) with | false => rfl | true => rw [hsub _ h] at hq; cases hq)).trans (hS.2.1 q hq), fun x hx => by
      rcases List.mem_append.mp hx with h | h
      · exact hS.2.2 x h
      · exact hsub _ (hL x h)⟩ hk T' e1 X'
  exact ⟨t2, st t2 a1, b1⟩
theorem tv_calli {post : Int32 → Z → Prop} (hr : CallRun p l e R s m args below meth c H locs cells slots 0 0 (F0 m pc ls st0) rest (tQx D F2 tv wr2 (xI post) ar) (fun q => wr2 (tv q) = true)) (hS : tF t wr H0 H locs) (hsub : ∀ q : Nat, wr2 (tv q) = true → wr (t q) = true)
    (kk : ∀ (r : Int32) (z : Z) (H1 : Heap) (locs1 : List Loc), post r z → tG D (F2 z) tv H1 → tF t wr H0 H1 locs1 → (∀ q : Nat, wr2 (tv q) = false → H1[q]? = H[q]?) → W p l e R s m args below meth c H1 locs1 cells slots Q (F0 m (pc + 3) ls (.int r :: rest))) : W p l e R s m args below meth c H locs cells slots Q (F0 m pc ls st0) :=
  tv_run hr hS hsub (fun v z H1 locs1 hp h1 h2 h3 => by obtain ⟨r, rfl, hp⟩ := hp; exact kk r z H1 locs1 hp h1 h2 h3)
theorem tv_callv {post : Z → Prop} (hr : CallRun p l e R s m args below meth c H locs cells slots 0 0 (F0 m pc ls st0) rest (tQx D F2 tv wr2 (xV post) ar) (fun q => wr2 (tv q) = true)) (hS : tF t wr H0 H locs) (hsub : ∀ q : Nat, wr2 (tv q) = true → wr (t q) = true)
    (kk : ∀ (z : Z) (H1 : Heap) (locs1 : List Loc), post z → tG D (F2 z) tv H1 → tF t wr H0 H1 locs1 → (∀ q : Nat, wr2 (tv q) = false → H1[q]? = H[q]?) → W p l e R s m args below meth c H1 locs1 cells slots Q (F0 m (pc + 3) ls rest)) : W p l e R s m args below meth c H locs cells slots Q (F0 m pc ls st0) :=
  tv_run hr hS hsub (fun v z H1 locs1 hp h1 h2 h3 => by obtain ⟨rfl, hp⟩ := hp; exact kk z H1 locs1 hp h1 h2 h3)
theorem tw_run {post : Option Value → Prop} (hr : CallRun p l e R s m args below meth c H locs cells slots 0 0 (F0 m pc ls st0) rest (tQ D F3 tv wr2 post ar) (fun q => wr2 (tv q) = true)) (hS : tF t wr H0 H locs) (hsub : ∀ q : Nat, wr2 (tv q) = true → wr (t q) = true)
    (kk : ∀ (v : Option Value) (H1 : Heap) (locs1 : List Loc), post v → tG D F3 tv H1 → tF t wr H0 H1 locs1 → (∀ q : Nat, wr2 (tv q) = false → H1[q]? = H[q]?) → W p l e R s m args below meth c H1 locs1 cells slots Q (F0 m (pc + 3) ls (v.toList ++ rest))) : W p l e R s m args below meth c H locs cells slots Q (F0 m pc ls st0) := by
  intro T hT X
  obtain ⟨v, st₀, u, T', L, h0, X', hL, e1, ⟨⟨v', hv, hp⟩, hG, hz, hk⟩, st⟩ := hr T hT X
  cases hv
  rw [h0] at hz hk
  obtain ⟨t2, a1, b1⟩ := kk v u.heap (locs ++ L) hp hG ⟨hz.trans hS.1, fun q hq => (hk q (by cases h : wr2 (tv q) with | false => rfl | true => rw [hsub _ h] at hq; cases hq)).trans (hS.2.1 q hq), fun x hx => by
      rcases List.mem_append.mp hx with h | h
      · exact hS.2.2 x h
      · exact hsub _ (hL x h)⟩ hk T' e1 X'
  exact ⟨t2, st t2 a1, b1⟩
theorem tw_calli {post : Int32 → Prop} (hr : CallRun p l e R s m args below meth c H locs cells slots 0 0 (F0 m pc ls st0) rest (tQ D F3 tv wr2 (pI post) ar) (fun q => wr2 (tv q) = true)) (hS : tF t wr H0 H locs) (hsub : ∀ q : Nat, wr2 (tv q) = true → wr (t q) = true)
    (kk : ∀ (r : Int32) (H1 : Heap) (locs1 : List Loc), post r → tG D F3 tv H1 → tF t wr H0 H1 locs1 → (∀ q : Nat, wr2 (tv q) = false → H1[q]? = H[q]?) → W p l e R s m args below meth c H1 locs1 cells slots Q (F0 m (pc + 3) ls (.int r :: rest))) : W p l e R s m args below meth c H locs cells slots Q (F0 m pc ls st0) :=
  tw_run hr hS hsub (fun v H1 locs1 hp h1 h2 h3 => by obtain ⟨r, rfl, hp⟩ := hp; exact kk r H1 locs1 hp h1 h2 h3)
theorem tw_calll {post : Int64 → Prop} (hr : CallRun p l e R s m args below meth c H locs cells slots 0 0 (F0 m pc ls st0) rest (tQ D F3 tv wr2 (pL post) ar) (fun q => wr2 (tv q) = true)) (hS : tF t wr H0 H locs) (hsub : ∀ q : Nat, wr2 (tv q) = true → wr (t q) = true)
    (kk : ∀ (r : Int64) (H1 : Heap) (locs1 : List Loc), post r → tG D F3 tv H1 → tF t wr H0 H1 locs1 → (∀ q : Nat, wr2 (tv q) = false → H1[q]? = H[q]?) → W p l e R s m args below meth c H1 locs1 cells slots Q (F0 m (pc + 3) ls (.long r :: rest))) : W p l e R s m args below meth c H locs cells slots Q (F0 m pc ls st0) :=
  tw_run hr hS hsub (fun v H1 locs1 hp h1 h2 h3 => by obtain ⟨r, rfl, hp⟩ := hp; exact kk r H1 locs1 hp h1 h2 h3)
theorem tw_callv {post : Prop} (hr : CallRun p l e R s m args below meth c H locs cells slots 0 0 (F0 m pc ls st0) rest (tQ D F3 tv wr2 (pV post) ar) (fun q => wr2 (tv q) = true)) (hS : tF t wr H0 H locs) (hsub : ∀ q : Nat, wr2 (tv q) = true → wr (t q) = true)
    (kk : ∀ (H1 : Heap) (locs1 : List Loc), post → tG D F3 tv H1 → tF t wr H0 H1 locs1 → (∀ q : Nat, wr2 (tv q) = false → H1[q]? = H[q]?) → W p l e R s m args below meth c H1 locs1 cells slots Q (F0 m (pc + 3) ls rest)) : W p l e R s m args below meth c H locs cells slots Q (F0 m pc ls st0) :=
  tw_run hr hS hsub (fun v H1 locs1 hp h1 h2 h3 => by obtain ⟨rfl, hp⟩ := hp; exact kk H1 locs1 hp h1 h2 h3)
end TVC
theorem tG.kept0 {D : va_G} {F : tFT} {t tv : Nat → Nat} {H H1 : Heap} (h : tG D F t H) (o : ∀ q : Nat, wr0 (tv q) = false → H1[q]? = H[q]?) : tG D F t H1 := fun a ha => by
  obtain ⟨e, h1, h2⟩ := h a ha
  exact ⟨e, h1.kept (o a rfl), h2⟩
theorem cpy_at {f g : Nat → Int32} {n j : Nat} {x : Int32} (hj : j < n) (hx : x.toNatClampNeg = n := by decide) : va_cpy f g (0 : Int32).toNatClampNeg (0 : Int32).toNatClampNeg x.toNatClampNeg j = f j := by
  unfold va_cpy
  rw [hx, show (0 : Int32).toNatClampNeg = 0 by decide, if_pos ⟨by omega, by omega⟩, show 0 + (j - 0) = j by omega]
/-! answers -/
def asee (b : Int32) (V N : Nat → Int32) (k h v : Int32) : Int32 := if k.toInt < 0 ∨ 3 < k.toInt ∨ h.toInt < 0 ∨ 95 < h.toInt ∨ v.toInt < -1 ∨ 10000000 < v.toInt then -100 else if b.toInt = 0 ∨ (V k.toInt.toNat).toInt = -4 then -102 else N (96 * k.toInt + h.toInt).toNat
def nsee (b : Int32) (V N : Nat → Int32) (k h v : Int32) : Nat → Int32 := if k.toInt < 0 ∨ 3 < k.toInt ∨ h.toInt < 0 ∨ 95 < h.toInt ∨ v.toInt < -1 ∨ 10000000 < v.toInt then N else if b.toInt = 0 ∨ (V k.toInt.toNat).toInt = -4 then N else upd N (96 * k.toInt + h.toInt).toNat v
theorem gsQ.no {V : Nat → Int32} {k : Int} (h : ¬ gsQ V k) (h0 : 0 ≤ k) (h3 : k ≤ 3) : (V k.toNat).toInt = -4 := by
  by_cases q : (V k.toNat).toInt = -4
  · exact q
  · exact absurd ⟨h0, h3, q⟩ h
