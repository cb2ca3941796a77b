/-! the law: rows of its own calls -/
section LWC
variable {p : Program} {l : Launch} {e : Env} {R : Room} {s : State} {m : MethodId} {args : Array Value} {below : List Frame} {meth : Method} {c : Code} {H : Heap} {locs : List Loc} {cells slots : Nat} {Q : State → Prop}
variable {pc : Nat} {ls : Array Slot} {rest st0 : List Value} {D : va_G} {F2 : tFT} {t : Nat → Nat} {wr2 : Nat → Bool} {H0 : Heap} {ar : Array Value} {h0 : Nat}
theorem lw_run {post : Option Value → Prop} (hr : CallRun p l e R s m args below meth c H locs cells slots 0 0 (F0 m pc ls st0) rest (tQ D F2 t wr2 post ar) (fun q => wr2 (t q) = true)) (hS : cF h0 H0 H locs) (hw0 : wr2 0 = false) (ht0 : ∀ q : Nat, q < h0 → t q = 0)
    (kk : ∀ (v : Option Value) (H1 : Heap) (locs1 : List Loc), post v → tG D F2 t H1 → cF h0 H0 H1 locs1 → (∀ q : Nat, wr2 (t q) = false → H1[q]? = H[q]?) → W p l e R s m args below meth c H1 locs1 cells slots Q (F0 m (pc + 3) ls (v.toList ++ rest))) : W p l e R s m args below meth c H locs cells slots Q (F0 m pc ls st0) := by
  intro T hT X
  obtain ⟨v, st₀, u, T', L, h1, X', hL, e1, ⟨⟨v', hv, hp⟩, hG, hz, hk⟩, st⟩ := hr T hT X
  cases hv
  rw [h1] at hz hk
  obtain ⟨t2, a1, b1⟩ := kk v u.heap (locs ++ L) hp hG ⟨by rw [hz]; exact hS.1, fun q hq => (hk q (by rw [ht0 q hq]; exact hw0)).trans (hS.2.1 q hq), fun x hx => by
      rcases List.mem_append.mp hx with h | h
      · exact hS.2.2 x h
      · refine Nat.not_lt.mp fun h2 => ?_
        have h3 : wr2 (t x.base) = true := hL x h
        rw [ht0 _ h2, hw0] at h3
        cases h3⟩ hk T' e1 X'
  exact ⟨t2, st t2 a1, b1⟩
theorem lw_calli {post : Int32 → Prop} (hr : CallRun p l e R s m args below meth c H locs cells slots 0 0 (F0 m pc ls st0) rest (tQ D F2 t wr2 (pI post) ar) (fun q => wr2 (t q) = true)) (hS : cF h0 H0 H locs) (hw0 : wr2 0 = false) (ht0 : ∀ q : Nat, q < h0 → t q = 0)
    (kk : ∀ (r : Int32) (H1 : Heap) (locs1 : List Loc), post r → tG D F2 t H1 → cF h0 H0 H1 locs1 → (∀ q : Nat, wr2 (t q) = false → H1[q]? = H[q]?) → W p l e R s m args below meth c H1 locs1 cells slots Q (F0 m (pc + 3) ls (.int r :: rest))) : W p l e R s m args below meth c H locs cells slots Q (F0 m pc ls st0) :=
  lw_run hr hS hw0 ht0 (fun v H1 locs1 hp h1 h2 h3 => by obtain ⟨r, rfl, hp⟩ := hp; exact kk r H1 locs1 hp h1 h2 h3)
theorem lw_calll {post : Int64 → Prop} (hr : CallRun p l e R s m args below meth c H locs cells slots 0 0 (F0 m pc ls st0) rest (tQ D F2 t wr2 (pL post) ar) (fun q => wr2 (t q) = true)) (hS : cF h0 H0 H locs) (hw0 : wr2 0 = false) (ht0 : ∀ q : Nat, q < h0 → t q = 0)
    (kk : ∀ (r : Int64) (H1 : Heap) (locs1 : List Loc), post r → tG D F2 t H1 → cF h0 H0 H1 locs1 → (∀ q : Nat, wr2 (t q) = false → H1[q]? = H[q]?) → W p l e R s m args below meth c H1 locs1 cells slots Q (F0 m (pc + 3) ls (.long r :: rest))) : W p l e R s m args below meth c H locs cells slots Q (F0 m pc ls st0) :=
  lw_run hr hS hw0 ht0 (fun v H1 locs1 hp h1 h2 h3 => by obtain ⟨r, rfl, hp⟩ := hp; exact kk r H1 locs1 hp h1 h2 h3)
end LWC
theorem tG.keptW {D : va_G} {F : tFT} {t t2 : Nat → Nat} {wr2 : Nat → Bool} {H H1 : Heap} (h : tG D F t2 H) (o : ∀ q : Nat, wr2 (t q) = false → H1[q]? = H[q]?) (hw : ∀ q : Nat, t2 q ≠ 0 → wr2 (t q) = false) : tG D F t2 H1 := fun a ha => by
  obtain ⟨e, h1, h2⟩ := h a ha
  exact ⟨e, h1.kept (o a (hw a ha)), h2⟩
theorem rcv1 {D : va_G} {cI cL cC : ClassId} {gC gR : Int32} {t : Nat → Nat} {H : Heap} {a : Nat} (hG : tG D (fF cI cL cC gC gR) t H) (ha : t a = 1) : ∃ fs : List Value, va_at D vwCl (a, .inr (8, fs)) H := by
  obtain ⟨e, h1, h2⟩ := hG a (by rw [ha]; decide)
  rw [ha] at h2
  obtain ⟨_, _, _, _, _, _, _, _, _, _, _, _, _, _, _, rfl, _⟩ := h2
  exact ⟨_, h1⟩
theorem rcv40 {D : va_G} {cI cL cC : ClassId} {gC gR : Int32} {t : Nat → Nat} {H : Heap} {a : Nat} (hG : tG D (fF cI cL cC gC gR) t H) (ha : t a = 40) : ∃ fs : List Value, va_at D vwCl (a, .inr (9, fs)) H := by
  obtain ⟨e, h1, h2⟩ := hG a (by rw [ha]; decide)
  rw [ha] at h2
  obtain ⟨_, _, _, _, _, _, _, _, _, _, _, _, _, _, _, _, _, _, _, _, _, _, _, _, _, _, _, _, _, rfl, _⟩ := h2
  exact ⟨_, h1⟩
/-- the cells of the reference alone -/
def tM2 (t : Nat → Nat) : Nat → Nat := fun q => if t q < 40 then 0 else t q
theorem tM2_40 {t : Nat → Nat} {q k : Nat} (h : t q = k) (hk : 40 ≤ k) : tM2 t q = k := by unfold tM2; rw [if_neg (by omega)]; exact h
theorem tM2_of {t : Nat → Nat} {q k : Nat} (h : tM2 t q = k) (hk : k ≠ 0) : t q = k := by
  unfold tM2 at h
  split at h
  · exact absurd h.symm hk
  · exact h
theorem tM2_0 {t : Nat → Nat} {q : Nat} (h : t q = 0) : tM2 t q = 0 := by simp [tM2, h]
theorem tM2_w {t : Nat → Nat} {q : Nat} (h : tM2 t q ≠ 0) : wrX (t q) = false := by
  have h1 : ¬ t q < 40 := fun h2 => h (by simp [tM2, h2])
  unfold wrX
  rw [Bool.and_eq_false_iff]
  right
  cases h3 : Nat.blt (t q) 40 with
  | false => rfl
  | true => exact absurd (by simpa [Nat.blt_eq] using h3) h1
theorem tK2_lt {KL : List Nat} {b q : Nat} (h : q < b) : tK2 KL b q = 0 := by simp [tK2, h]
theorem tK2_uq {KL : List Nat} {b k i0 : Nat} (hk : k ≠ 0) (h : ∀ i, i < KL.length → KL.getD i 0 = k → i = i0) {q : Nat} (hq : tK2 KL b q = k) : q = b + i0 := by
  unfold tK2 at hq
  split at hq
  · exact absurd hq.symm hk
  · by_cases hl : q - b < KL.length
    · have := h _ hl hq; omega
    · rw [List.getD, List.getElem?_eq_none (Nat.not_lt.mp hl)] at hq
      exact absurd hq.symm hk
theorem fF_tM2 {cI cL cC : ClassId} {gC gR : Int32} {t : Nat → Nat} : ∀ {k : Nat} {e : va_E}, 40 ≤ k → fF cI cL cC gC gR t k e → fF cI cL cC gC gR (tM2 t) k e
  | 0, _, hk, _ => absurd hk (by decide)
  | 1, _, hk, _ => absurd hk (by decide)
  | 2, _, hk, _ => absurd hk (by decide)
  | 3, _, hk, _ => absurd hk (by decide)
  | 4, _, hk, _ => absurd hk (by decide)
  | 5, _, hk, _ => absurd hk (by decide)
  | 6, _, hk, _ => absurd hk (by decide)
  | 7, _, hk, _ => absurd hk (by decide)
  | 8, _, hk, _ => absurd hk (by decide)
  | 9, _, hk, _ => absurd hk (by decide)
  | 10, _, hk, _ => absurd hk (by decide)
  | 11, _, hk, _ => absurd hk (by decide)
  | 12, _, hk, _ => absurd hk (by decide)
  | 13, _, hk, _ => absurd hk (by decide)
  | 14, _, hk, _ => absurd hk (by decide)
  | 15, _, hk, _ => absurd hk (by decide)
  | 16, _, hk, _ => absurd hk (by decide)
  | 17, _, hk, _ => absurd hk (by decide)
  | 18, _, hk, _ => absurd hk (by decide)
  | 19, _, hk, _ => absurd hk (by decide)
  | 20, _, hk, _ => absurd hk (by decide)
  | 21, _, hk, _ => absurd hk (by decide)
  | 22, _, hk, _ => absurd hk (by decide)
  | 23, _, hk, _ => absurd hk (by decide)
  | 24, _, hk, _ => absurd hk (by decide)
  | 25, _, hk, _ => absurd hk (by decide)
  | 26, _, hk, _ => absurd hk (by decide)
  | 27, _, hk, _ => absurd hk (by decide)
  | 28, _, hk, _ => absurd hk (by decide)
  | 29, _, hk, _ => absurd hk (by decide)
  | 30, _, hk, _ => absurd hk (by decide)
  | 31, _, hk, _ => absurd hk (by decide)
  | 32, _, hk, _ => absurd hk (by decide)
  | 33, _, hk, _ => absurd hk (by decide)
  | 34, _, hk, _ => absurd hk (by decide)
  | 35, _, hk, _ => absurd hk (by decide)
  | 36, _, hk, _ => absurd hk (by decide)
  | 37, _, hk, _ => absurd hk (by decide)
  | 38, _, hk, _ => absurd hk (by decide)
  | 39, _, hk, _ => absurd hk (by decide)
  | 40, _, _, ⟨r1, r4, r5, r6, r7, r9, r10, r11, r12, r14, r15, r16, r18, r19, r20, r21, r22, r23, r24, r25, r26, v27, v28, v29, v30, v31, r32, v34, r35, he, w0, w1, w2, w3, w4, w5, w6, w7, w8, w9, w10, w11, w12, w13, w14, w15, w16, w17, w18, w19, w20, w21, w22⟩ => ⟨r1, r4, r5, r6, r7, r9, r10, r11, r12, r14, r15, r16, r18, r19, r20, r21, r22, r23, r24, r25, r26, v27, v28, v29, v30, v31, r32, v34, r35, he, tM2_40 w0 (by decide), tM2_40 w1 (by decide), tM2_40 w2 (by decide), tM2_40 w3 (by decide), tM2_40 w4 (by decide), tM2_40 w5 (by decide), tM2_40 w6 (by decide), tM2_40 w7 (by decide), tM2_40 w8 (by decide), tM2_40 w9 (by decide), tM2_40 w10 (by decide), tM2_40 w11 (by decide), tM2_40 w12 (by decide), tM2_40 w13 (by decide), tM2_40 w14 (by decide), tM2_40 w15 (by decide), tM2_40 w16 (by decide), tM2_40 w17 (by decide), tM2_40 w18 (by decide), tM2_40 w19 (by decide), tM2_40 w20 (by decide), tM2_40 w21 (by decide), tM2_40 w22 (by decide)⟩
  | 41, _, _, h => h
  | 42, _, _, h => h
  | 43, _, _, h => h
  | 44, _, _, h => h
  | 45, _, _, h => h
  | 46, _, _, h => h
  | 47, _, _, h => h
  | 48, _, _, h => h
  | 49, _, _, h => h
  | 50, _, _, h => h
  | 51, _, _, h => h
  | 52, _, _, h => h
  | 53, _, _, h => h
  | 54, _, _, h => h
  | 55, _, _, h => h
  | 56, _, _, h => h
  | 57, _, _, h => h
  | 58, _, _, h => h
  | 59, _, _, h => h
  | 60, _, _, h => h
  | 61, _, _, h => h
  | 62, _, _, h => h
  | 63, _, _, h => h
  | _ + 64, _, _, h => h
theorem tG.ref {D : va_G} {cI cL cC : ClassId} {gC gR : Int32} {t : Nat → Nat} {H : Heap} (h : tG D (fF cI cL cC gC gR) t H) : tG D (fF cI cL cC gC gR) (tM2 t) H := fun a ha => by
  have h1 : ¬ t a < 40 := fun h2 => ha (by simp [tM2, h2])
  have e1 : tM2 t a = t a := by simp [tM2, h1]
  obtain ⟨e, a1, a2⟩ := h a (by omega)
  exact ⟨e, a1, by rw [e1]; exact fF_tM2 (by omega) a2⟩
