/-! the law over a whole script: rows of its own calls. Own rows. -/
section LWC
variable {p : Program} {l : Launch} {e : Env} {R : Room} {s : State} {m : MethodId} {args : Array Value} {below : List Frame} {meth : Method} {c : Code} {H : Heap} {locs : List Loc} {cells slots : Nat} {Q : State → Prop}
variable {pc : Nat} {ls : Array Slot} {rest st0 : List Value} {D : va_G} {F2 : tFT} {t : Nat → Nat} {wr2 : Nat → Bool} {H0 : Heap} {ar : Array Value} {h0 : Nat}
theorem lw_run {post : Option Value → Prop} (hr : CallRun p l e R s m args below meth c H locs cells slots 0 0 (F0 m pc ls st0) rest (tQ D F2 t wr2 post ar) (fun q => wr2 (t q) = true)) (hS : cF h0 H0 H locs) (hw0 : wr2 0 = false) (ht0 : ∀ q : Nat, q < h0 → t q = 0)
    (kk : ∀ (v : Option Value) (H1 : Heap) (locs1 : List Loc), post v → tG D F2 t H1 → cF h0 H0 H1 locs1 → (∀ q : Nat, wr2 (t q) = false → H1[q]? = H[q]?) → W p l e R s m args below meth c H1 locs1 cells slots Q (F0 m (pc + 3) ls (v.toList ++ rest))) : W p l e R s m args below meth c H locs cells slots Q (F0 m pc ls st0) := by
  intro T hT X
  obtain ⟨v, st₀, u, T', L, h1, X', hL, e1, ⟨⟨v', hv, hp⟩, hG, hz, hk⟩, st⟩ := hr T hT X
  cases hv
  rw [h1] at hz hk
  obtain ⟨t2, a1, b1⟩ := kk v u.heap (locs ++ L) hp hG ⟨by rw [hz]; exact hS.1, fun q hq => (hk q (by rw [ht0 q hq]; exact hw0)).trans (hS.2.1 q hq), fun x hx => by
      rcases List.mem_append.mp hx with h | h
      · exact hS.2.2 x h
      · refine Nat.not_lt.mp fun h2 => ?_
        have h3 : wr2 (t x.base) = true := hL x h
        rw [ht0 _ h2, hw0] at h3
        cases h3⟩ hk T' e1 X'
  exact ⟨t2, st t2 a1, b1⟩
theorem lw_calli {post : Int32 → Prop} (hr : CallRun p l e R s m args below meth c H locs cells slots 0 0 (F0 m pc ls st0) rest (tQ D F2 t wr2 (pI post) ar) (fun q => wr2 (t q) = true)) (hS : cF h0 H0 H locs) (hw0 : wr2 0 = false) (ht0 : ∀ q : Nat, q < h0 → t q = 0)
    (kk : ∀ (r : Int32) (H1 : Heap) (locs1 : List Loc), post r → tG D F2 t H1 → cF h0 H0 H1 locs1 → (∀ q : Nat, wr2 (t q) = false → H1[q]? = H[q]?) → W p l e R s m args below meth c H1 locs1 cells slots Q (F0 m (pc + 3) ls (.int r :: rest))) : W p l e R s m args below meth c H locs cells slots Q (F0 m pc ls st0) :=
  lw_run hr hS hw0 ht0 (fun v H1 locs1 hp h1 h2 h3 => by obtain ⟨r, rfl, hp⟩ := hp; exact kk r H1 locs1 hp h1 h2 h3)
theorem lw_calll {post : Int64 → Prop} (hr : CallRun p l e R s m args below meth c H locs cells slots 0 0 (F0 m pc ls st0) rest (tQ D F2 t wr2 (pL post) ar) (fun q => wr2 (t q) = true)) (hS : cF h0 H0 H locs) (hw0 : wr2 0 = false) (ht0 : ∀ q : Nat, q < h0 → t q = 0)
    (kk : ∀ (r : Int64) (H1 : Heap) (locs1 : List Loc), post r → tG D F2 t H1 → cF h0 H0 H1 locs1 → (∀ q : Nat, wr2 (t q) = false → H1[q]? = H[q]?) → W p l e R s m args below meth c H1 locs1 cells slots Q (F0 m (pc + 3) ls (.long r :: rest))) : W p l e R s m args below meth c H locs cells slots Q (F0 m pc ls st0) :=
  lw_run hr hS hw0 ht0 (fun v H1 locs1 hp h1 h2 h3 => by obtain ⟨r, rfl, hp⟩ := hp; exact kk r H1 locs1 hp h1 h2 h3)
variable {Z : Type} {F3 : Z → tFT}
theorem lx_run {post : Option Value → Z → Prop} (hr : CallRun p l e R s m args below meth c H locs cells slots 0 0 (F0 m pc ls st0) rest (tQx D F3 t wr2 post ar) (fun q => wr2 (t q) = true)) (hS : cF h0 H0 H locs) (hw0 : wr2 0 = false) (ht0 : ∀ q : Nat, q < h0 → t q = 0)
    (kk : ∀ (v : Option Value) (z : Z) (H1 : Heap) (locs1 : List Loc), post v z → tG D (F3 z) t H1 → cF h0 H0 H1 locs1 → (∀ q : Nat, wr2 (t q) = false → H1[q]? = H[q]?) → W p l e R s m args below meth c H1 locs1 cells slots Q (F0 m (pc + 3) ls (v.toList ++ rest))) : W p l e R s m args below meth c H locs cells slots Q (F0 m pc ls st0) := by
  intro T hT X
  obtain ⟨v, st₀, u, T', L, h1, X', hL, e1, ⟨⟨v', z, hv, hp, hG⟩, hz, hk⟩, st⟩ := hr T hT X
  cases hv
  rw [h1] at hz hk
  obtain ⟨t2, a1, b1⟩ := kk v z u.heap (locs ++ L) hp hG ⟨by rw [hz]; exact hS.1, fun q hq => (hk q (by rw [ht0 q hq]; exact hw0)).trans (hS.2.1 q hq), fun x hx => by
      rcases List.mem_append.mp hx with h | h
      · exact hS.2.2 x h
      · refine Nat.not_lt.mp fun h2 => ?_
        have h3 : wr2 (t x.base) = true := hL x h
        rw [ht0 _ h2, hw0] at h3
        cases h3⟩ hk T' e1 X'
  exact ⟨t2, st t2 a1, b1⟩
theorem lx_calli {post : Int32 → Z → Prop} (hr : CallRun p l e R s m args below meth c H locs cells slots 0 0 (F0 m pc ls st0) rest (tQx D F3 t wr2 (xI post) ar) (fun q => wr2 (t q) = true)) (hS : cF h0 H0 H locs) (hw0 : wr2 0 = false) (ht0 : ∀ q : Nat, q < h0 → t q = 0)
    (kk : ∀ (r : Int32) (z : Z) (H1 : Heap) (locs1 : List Loc), post r z → tG D (F3 z) t H1 → cF h0 H0 H1 locs1 → (∀ q : Nat, wr2 (t q) = false → H1[q]? = H[q]?) → W p l e R s m args below meth c H1 locs1 cells slots Q (F0 m (pc + 3) ls (.int r :: rest))) : W p l e R s m args below meth c H locs cells slots Q (F0 m pc ls st0) :=
  lx_run hr hS hw0 ht0 (fun v z H1 locs1 hp h1 h2 h3 => by obtain ⟨r, rfl, hp⟩ := hp; exact kk r z H1 locs1 hp h1 h2 h3)
theorem lx_calll {post : Int64 → Z → Prop} (hr : CallRun p l e R s m args below meth c H locs cells slots 0 0 (F0 m pc ls st0) rest (tQx D F3 t wr2 (xL post) ar) (fun q => wr2 (t q) = true)) (hS : cF h0 H0 H locs) (hw0 : wr2 0 = false) (ht0 : ∀ q : Nat, q < h0 → t q = 0)
    (kk : ∀ (r : Int64) (z : Z) (H1 : Heap) (locs1 : List Loc), post r z → tG D (F3 z) t H1 → cF h0 H0 H1 locs1 → (∀ q : Nat, wr2 (t q) = false → H1[q]? = H[q]?) → W p l e R s m args below meth c H1 locs1 cells slots Q (F0 m (pc + 3) ls (.long r :: rest))) : W p l e R s m args below meth c H locs cells slots Q (F0 m pc ls st0) :=
  lx_run hr hS hw0 ht0 (fun v z H1 locs1 hp h1 h2 h3 => by obtain ⟨r, rfl, hp⟩ := hp; exact kk r z H1 locs1 hp h1 h2 h3)
end LWC
theorem tG.keptW {D : va_G} {F : tFT} {t t2 : Nat → Nat} {wr2 : Nat → Bool} {H H1 : Heap} (h : tG D F t2 H) (o : ∀ q : Nat, wr2 (t q) = false → H1[q]? = H[q]?) (hw : ∀ q : Nat, t2 q ≠ 0 → wr2 (t q) = false) : tG D F t2 H1 := fun a ha => by
  obtain ⟨e, h1, h2⟩ := h a ha
  exact ⟨e, h1.kept (o a (hw a ha)), h2⟩
theorem tK2_lt {KL : List Nat} {b q : Nat} (h : q < b) : tK2 KL b q = 0 := by simp [tK2, h]
theorem tK2_ge {KL : List Nat} {b q : Nat} (h : b + KL.length ≤ q) : tK2 KL b q = 0 := by
  unfold tK2
  rw [if_neg (by omega), List.getD, List.getElem?_eq_none (by omega)]
  rfl
theorem tK2_rng {KL : List Nat} {b q : Nat} (h : tK2 KL b q ≠ 0) : b ≤ q ∧ q < b + KL.length := by
  refine ⟨Nat.not_lt.mp fun h1 => h (tK2_lt h1), Nat.not_le.mp fun h1 => h (tK2_ge h1)⟩
theorem tK2_uq {KL : List Nat} {b k i0 : Nat} (hk : k ≠ 0) (h : ∀ i, i < KL.length → KL.getD i 0 = k → i = i0) {q : Nat} (hq : tK2 KL b q = k) : q = b + i0 := by
  unfold tK2 at hq
  split at hq
  · exact absurd hq.symm hk
  · by_cases hl : q - b < KL.length
    · have := h _ hl hq; omega
    · rw [List.getD, List.getElem?_eq_none (Nat.not_lt.mp hl)] at hq
      exact absurd hq.symm hk
/-- each kind stands once -/
theorem tK2_inj {KL : List Nat} {b : Nat} (h : ∀ i, i < KL.length → ∀ j, j < KL.length → KL.getD i 0 = KL.getD j 0 → i = j) {q r : Nat} (e : tK2 KL b q = tK2 KL b r) (hq : tK2 KL b q ≠ 0) : q = r := by
  have h1 := tK2_rng hq
  have h2 := tK2_rng (by rw [← e]; exact hq)
  have e1 : tK2 KL b q = KL.getD (q - b) 0 := by unfold tK2; rw [if_neg (by omega)]
  have e2 : tK2 KL b r = KL.getD (r - b) 0 := by unfold tK2; rw [if_neg (by omega)]
  have := h (q - b) (by omega) (r - b) (by omega) (by rw [← e1, ← e2]; exact e)
  omega
theorem rcv1 {D : va_G} {cI cL cC : ClassId} {gC : Int32} {gE : Int32} {G : Nat} {gW : Nat → Int32} {gA : Nat → Int32} {t : Nat → Nat} {H : Heap} {a : Nat} (hG : tG D (gF cI cL cC gC gE G gW gA) t H) (ha : t a = 1) : ∃ fs : List Value, va_at D vwCl (a, .inr (8, fs)) H := by
  obtain ⟨e, h1, h2⟩ := hG a (by rw [ha]; decide)
  rw [ha] at h2
  obtain ⟨_, _, _, _, _, _, _, _, _, _, _, _, _, _, _, _, _, _, rfl, _⟩ := h2
  exact ⟨_, h1⟩
theorem rcv40 {D : va_G} {cI cL cC : ClassId} {gC : Int32} {gE : Int32} {gW : Nat → Int32} {gA : Nat → Int32} {gT : Nat → Int32} {gI : Int32} {gS : Int32} {gM : Int32} {K : Nat → Int32} {F : Nat → Int32} {S : Nat → Int32} {N : Nat → Int32} {gH : Int} {gJ : Int} {ge : Int32} {gk : Int32} {gf : Int32} {gs : Int32} {gg : Int32} {gr : Int32} {RN : Nat → Int32} {t : Nat → Nat} {H : Heap} {a : Nat} (hG : tG D (mF cI cL cC gC gE gW gA gT gI gS gM K F S N gH gJ ge gk gf gs gg gr RN) t H) (ha : t a = 40) : ∃ fs : List Value, va_at D vwCl (a, .inr (9, fs)) H := by
  obtain ⟨e, h1, h2⟩ := hG a (by rw [ha]; decide)
  rw [ha] at h2
  obtain ⟨_, _, _, _, _, _, _, _, _, _, _, _, _, _, _, _, _, _, _, _, _, _, _, _, _, rfl, _⟩ := h2
  exact ⟨_, h1⟩
/-! an int of the script as an argument, in one step. Own rows. -/
section LWA
variable {p : Program} {l : Launch} {e : Env} {R : Room} {s : State} {m : MethodId} {args : Array Value} {below : List Frame} {meth : Method} {c : Code} {H : Heap} {locs : List Loc} {cells slots : Nat} {Q : State → Prop} {cc : ByteArray} {pc : Nat} {ls : Array Slot} {rest : List Value} {b L r1 r2 : Nat} {xs : Nat → Int32} {yi : Int32}
theorem lw_argC (hx : p.tables.exec = Jvm.exec) (hb : c.code = cc) (hX : va_X b L xs s H) (hl : lv_has ls 4 [(3, .int yi), (2, .ref r2), (1, .ref r1), (0, .ref b)]) (hy0 : 0 ≤ yi.toInt) (hy8 : yi.toInt + 8 ≤ (L : Int)) (hL : L ≤ 4096) (n : Int) (hn : 0 ≤ n ∧ n ≤ 7) (hk : (Int32.ofInt n).toInt = n)
    (d1 : decode cc pc = .ok (.aload_n 0, 1)) (d2 : decode cc (pc + 1) = .ok (.iload_n 3, 1)) (d3 : decode cc (pc + 1 + 1) = .ok (.iconst n, 1)) (d4 : decode cc (pc + 1 + 1 + 1) = .ok (.iadd, 1)) (d5 : decode cc (pc + 1 + 1 + 1 + 1) = .ok (.iaload, 1))
    (kk : W p l e R s m args below meth c H locs cells slots Q (F0 m (pc + 5) ls (.int (xs (yi.toInt + n).toNat) :: rest))) : W p l e R s m args below meth c H locs cells slots Q (F0 m pc ls rest) := by
  refine lv_aload_n hx hb d1 rfl (lv_at hl 3 rfl) ?_
  refine lv_iload_n hx hb d2 rfl (lv_at hl 0 rfl) ?_
  refine lv_iconst hx hb d3 rfl ?_
  refine lv_iadd hx hb d4 ?_
  have hs : (yi + Int32.ofInt n).toInt = yi.toInt + n := by rw [q_add (by rw [hk]; omega) (by rw [hk]; omega), hk]
  refine ty_sld hx hb hX (i := yi + Int32.ofInt n) (q_in (by omega) (by omega)) d5 ?_
  refine lv_seti (y := xs (yi.toInt + n).toNat) (congrArg (fun q : Int => xs q.toNat) hs) ?_
  exact kk
theorem lw_argB (hx : p.tables.exec = Jvm.exec) (hb : c.code = cc) (hX : va_X b L xs s H) (hl : lv_has ls 4 [(3, .int yi), (2, .ref r2), (1, .ref r1), (0, .ref b)]) (hy0 : 0 ≤ yi.toInt) (hy8 : yi.toInt + 8 ≤ (L : Int)) (hL : L ≤ 4096) (n : Int) (hn : 0 ≤ n ∧ n ≤ 7) (hk : (Int8.ofInt n).toInt32.toInt = n)
    (d1 : decode cc pc = .ok (.aload_n 0, 1)) (d2 : decode cc (pc + 1) = .ok (.iload_n 3, 1)) (d3 : decode cc (pc + 1 + 1) = .ok (.bipush n, 2)) (d4 : decode cc (pc + 1 + 1 + 2) = .ok (.iadd, 1)) (d5 : decode cc (pc + 1 + 1 + 2 + 1) = .ok (.iaload, 1))
    (kk : W p l e R s m args below meth c H locs cells slots Q (F0 m (pc + 6) ls (.int (xs (yi.toInt + n).toNat) :: rest))) : W p l e R s m args below meth c H locs cells slots Q (F0 m pc ls rest) := by
  refine lv_aload_n hx hb d1 rfl (lv_at hl 3 rfl) ?_
  refine lv_iload_n hx hb d2 rfl (lv_at hl 0 rfl) ?_
  refine lv_bipush hx hb d3 rfl ?_
  refine lv_iadd hx hb d4 ?_
  have hs : (yi + (Int8.ofInt n).toInt32).toInt = yi.toInt + n := by rw [q_add (by rw [hk]; omega) (by rw [hk]; omega), hk]
  refine ty_sld hx hb hX (i := yi + (Int8.ofInt n).toInt32) (q_in (by omega) (by omega)) d5 ?_
  refine lv_seti (y := xs (yi.toInt + n).toNat) (congrArg (fun q : Int => xs q.toNat) hs) ?_
  exact kk
end LWA
