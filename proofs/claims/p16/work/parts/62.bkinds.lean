def bF (cI cL cC : ClassId) : tFT := fun t k e => match k with
  | 1 => ∃ (r0 : Nat) (r1 : Nat) (r2 : Nat) (r3 : Nat) (r6 : Nat) (r7 : Nat) (r8 : Nat) (r9 : Nat) (r10 : Nat) (r11 : Nat) (r12 : Nat) (r14 : Nat) (r15 : Nat) (r16 : Nat) (r17 : Nat), e = .inr (8, [.ref r0, .ref r1, .ref r2, .ref r3, .int 0, .int 0, .ref r6, .ref r7, .ref r8, .ref r9, .ref r10, .ref r11, .ref r12, .int 0, .ref r14, .ref r15, .ref r16, .ref r17]) ∧ t r0 = 2 ∧ t r1 = 3 ∧ t r2 = 37 ∧ t r3 = 41 ∧ t r6 = 4 ∧ t r7 = 4 ∧ t r8 = 35 ∧ t r9 = 5 ∧ t r10 = 5 ∧ t r11 = 5 ∧ t r12 = 36 ∧ t r14 = 6 ∧ t r15 = 7 ∧ t r16 = 8 ∧ t r17 = 9
  | 2 => ∃ (r0 : Nat) (r1 : Nat), e = .inr (6, [.ref r0, .ref r1, .int 0, .int 0]) ∧ t r0 = 10 ∧ t r1 = 11
  | 3 => ∃ (r0 : Nat) (r1 : Nat) (r2 : Nat), e = .inr (3, [.ref r0, .ref r1, .ref r2, .int 0, .int 0, .int 0]) ∧ t r0 = 12 ∧ t r1 = 13 ∧ t r2 = 14
  | 4 => ∃ (r0 : Nat) (r1 : Nat), e = .inr (5, [.ref r0, .ref r1]) ∧ t r0 = 15 ∧ t r1 = 16
  | 5 => ∃ (r0 : Nat) (r1 : Nat) (r2 : Nat) (r3 : Nat) (v4 : Int64) (v5 : Int64) (v6 : Int64) (v7 : Int32), e = .inr (0, [.ref r0, .ref r1, .ref r2, .ref r3, .long v4, .long v5, .long v6, .int v7]) ∧ t r0 = 17 ∧ t r1 = 18 ∧ t r2 = 19 ∧ t r3 = 20 ∧ (0 ≤ v7.toInt ∧ v7.toInt ≤ ((0 : Nat) : Int))
  | 6 => ∃ (r0 : Nat) (r1 : Nat) (r2 : Nat), e = .inr (1, [.ref r0, .ref r1, .ref r2, .int 0]) ∧ t r0 = 21 ∧ t r1 = 22 ∧ t r2 = 23
  | 7 => ∃ (r0 : Nat) (r1 : Nat) (r2 : Nat) (r3 : Nat) (r4 : Nat), e = .inr (2, [.ref r0, .ref r1, .ref r2, .ref r3, .ref r4]) ∧ t r0 = 24 ∧ t r1 = 25 ∧ t r2 = 26 ∧ t r3 = 27 ∧ t r4 = 28
  | 8 => ∃ (r0 : Nat) (r1 : Nat) (r2 : Nat), e = .inr (7, [.ref r0, .ref r1, .ref r2]) ∧ t r0 = 29 ∧ t r1 = 30 ∧ t r2 = 31
  | 9 => ∃ (r0 : Nat) (r1 : Nat) (r2 : Nat) (v3 : Int32) (v4 : Int64) (v5 : Int32) (v6 : Int32) (v7 : Int32) (v8 : Int32) (v9 : Int64), e = .inr (4, [.ref r0, .ref r1, .ref r2, .int v3, .long v4, .int v5, .int v6, .int v7, .int v8, .long v9]) ∧ t r0 = 32 ∧ t r1 = 33 ∧ t r2 = 34 ∧ (0 ≤ v5.toInt ∧ v5.toInt ≤ 3) ∧ (0 ≤ v6.toInt ∧ v6.toInt ≤ 6) ∧ (0 ≤ v8.toInt ∧ v8.toInt ≤ 15)
  | 10 => e = .inl (cI, 400, .inl (fun _ => 0))
  | 11 => e = .inl (cI, 6, .inl (fun _ => 0))
  | 12 => e = .inl (cI, 240, .inl (fun _ => 0))
  | 13 => e = .inl (cI, 16, .inl (fun _ => 0))
  | 14 => e = .inl (cI, 4, .inl (fun _ => 0))
  | 15 => ∃ (f : Nat → Int32), e = .inl (cI, 96, .inl f)
  | 16 => ∃ (f : Nat → Int32), e = .inl (cI, 96, .inl f)
  | 17 => ∃ (f : Nat → Int64), e = .inl (cL, 16, .inr (.inl f))
  | 18 => ∃ (f : Nat → Int64), e = .inl (cL, 40, .inr (.inl f))
  | 19 => ∃ (f : Nat → Int32), e = .inl (cI, 4, .inl f)
  | 20 => ∃ (f : Nat → Int64), e = .inl (cL, 208, .inr (.inl f))
  | 21 => ∃ (f : Nat → Int32), e = .inl (cI, 4, .inl f) ∧ (∀ j : Nat, j < 4 → f j = (-4))
  | 22 => e = .inl (cI, 4, .inl (fun _ => 0))
  | 23 => ∃ (f : Nat → Int32), e = .inl (cI, 384, .inl f) ∧ (∀ j : Nat, j < 384 → f j = (-1))
  | 24 => ∃ (f : Nat → Int32), e = .inl (cI, 2, .inl f)
  | 25 => ∃ (f : Nat → Int32), e = .inl (cI, 2, .inl f)
  | 26 => ∃ (f : Nat → Int32), e = .inl (cI, 2, .inl f)
  | 27 => ∃ (f : Nat → Int32), e = .inl (cI, 2, .inl f)
  | 28 => ∃ (f : Nat → Int32), e = .inl (cI, 2, .inl f) ∧ gMany f
  | 29 => e = .inl (cI, 4, .inl (fun _ => 0))
  | 30 => ∃ (f : Nat → Int32), e = .inl (cI, 4, .inl f)
  | 31 => e = .inl (cI, 96, .inl (fun _ => 0))
  | 32 => ∃ (f : Nat → Option Nat), e = .inl (cC, 4, .inr (.inr (.inr (.inr f)))) ∧ (∀ j : Nat, j < 4 → ∃ x : Nat, f j = some x ∧ t x = 5)
  | 33 => ∃ (f : Nat → Int32), e = .inl (cI, 4, .inl f)
  | 34 => ∃ (f : Nat → Int32), e = .inl (cI, 4, .inl f)
  | 35 => ∃ (f : Nat → Int32), e = .inl (cI, 16, .inl f)
  | 36 => ∃ (f : Nat → Option Nat), e = .inl (cC, 3, .inr (.inr (.inr (.inr f)))) ∧ (∀ j : Nat, j < 3 → ∃ x : Nat, f j = some x ∧ t x = 5)
  | 37 => ∃ (r0 : Nat) (r1 : Nat) (r2 : Nat), e = .inr (3, [.ref r0, .ref r1, .ref r2, .int 0, .int 0, .int 0]) ∧ t r0 = 38 ∧ t r1 = 39 ∧ t r2 = 40
  | 38 => e = .inl (cI, 240, .inl (fun _ => 0))
  | 39 => e = .inl (cI, 16, .inl (fun _ => 0))
  | 40 => e = .inl (cI, 4, .inl (fun _ => 0))
  | 41 => ∃ (r0 : Nat) (r1 : Nat) (r2 : Nat), e = .inr (3, [.ref r0, .ref r1, .ref r2, .int 0, .int 0, .int 0]) ∧ t r0 = 42 ∧ t r1 = 43 ∧ t r2 = 44
  | 42 => e = .inl (cI, 240, .inl (fun _ => 0))
  | 43 => e = .inl (cI, 16, .inl (fun _ => 0))
  | 44 => e = .inl (cI, 4, .inl (fun _ => 0))
  | _ => False
theorem bF_o1 {D : va_G} {cI cL cC : ClassId} {t : Nat → Nat} {H : Heap} {a : Nat} (hG : tG D (bF cI cL cC) t H) (ha : t a = 1) : ∃ (r0 : Nat) (r1 : Nat) (r2 : Nat) (r3 : Nat) (r6 : Nat) (r7 : Nat) (r8 : Nat) (r9 : Nat) (r10 : Nat) (r11 : Nat) (r12 : Nat) (r14 : Nat) (r15 : Nat) (r16 : Nat) (r17 : Nat), va_at D vwCl (a, .inr (8, [.ref r0, .ref r1, .ref r2, .ref r3, .int 0, .int 0, .ref r6, .ref r7, .ref r8, .ref r9, .ref r10, .ref r11, .ref r12, .int 0, .ref r14, .ref r15, .ref r16, .ref r17])) H ∧ t r0 = 2 ∧ t r1 = 3 ∧ t r2 = 37 ∧ t r3 = 41 ∧ t r6 = 4 ∧ t r7 = 4 ∧ t r8 = 35 ∧ t r9 = 5 ∧ t r10 = 5 ∧ t r11 = 5 ∧ t r12 = 36 ∧ t r14 = 6 ∧ t r15 = 7 ∧ t r16 = 8 ∧ t r17 = 9 := by
  obtain ⟨e, h1, h2⟩ := hG a (by rw [ha]; decide)
  rw [ha] at h2
  obtain ⟨r0, r1, r2, r3, r6, r7, r8, r9, r10, r11, r12, r14, r15, r16, r17, rfl, w0, w1, w2, w3, w4, w5, w6, w7, w8, w9, w10, w11, w12, w13, w14⟩ := h2
  exact ⟨r0, r1, r2, r3, r6, r7, r8, r9, r10, r11, r12, r14, r15, r16, r17, h1, w0, w1, w2, w3, w4, w5, w6, w7, w8, w9, w10, w11, w12, w13, w14⟩
theorem bF_o2 {D : va_G} {cI cL cC : ClassId} {t : Nat → Nat} {H : Heap} {a : Nat} (hG : tG D (bF cI cL cC) t H) (ha : t a = 2) : ∃ (r0 : Nat) (r1 : Nat), va_at D vwCl (a, .inr (6, [.ref r0, .ref r1, .int 0, .int 0])) H ∧ t r0 = 10 ∧ t r1 = 11 := by
  obtain ⟨e, h1, h2⟩ := hG a (by rw [ha]; decide)
  rw [ha] at h2
  obtain ⟨r0, r1, rfl, w0, w1⟩ := h2
  exact ⟨r0, r1, h1, w0, w1⟩
theorem bF_o3 {D : va_G} {cI cL cC : ClassId} {t : Nat → Nat} {H : Heap} {a : Nat} (hG : tG D (bF cI cL cC) t H) (ha : t a = 3) : ∃ (r0 : Nat) (r1 : Nat) (r2 : Nat), va_at D vwCl (a, .inr (3, [.ref r0, .ref r1, .ref r2, .int 0, .int 0, .int 0])) H ∧ t r0 = 12 ∧ t r1 = 13 ∧ t r2 = 14 := by
  obtain ⟨e, h1, h2⟩ := hG a (by rw [ha]; decide)
  rw [ha] at h2
  obtain ⟨r0, r1, r2, rfl, w0, w1, w2⟩ := h2
  exact ⟨r0, r1, r2, h1, w0, w1, w2⟩
theorem bF_o4 {D : va_G} {cI cL cC : ClassId} {t : Nat → Nat} {H : Heap} {a : Nat} (hG : tG D (bF cI cL cC) t H) (ha : t a = 4) : ∃ (r0 : Nat) (r1 : Nat), va_at D vwCl (a, .inr (5, [.ref r0, .ref r1])) H ∧ t r0 = 15 ∧ t r1 = 16 := by
  obtain ⟨e, h1, h2⟩ := hG a (by rw [ha]; decide)
  rw [ha] at h2
  obtain ⟨r0, r1, rfl, w0, w1⟩ := h2
  exact ⟨r0, r1, h1, w0, w1⟩
theorem bF_o5 {D : va_G} {cI cL cC : ClassId} {t : Nat → Nat} {H : Heap} {a : Nat} (hG : tG D (bF cI cL cC) t H) (ha : t a = 5) : ∃ (r0 : Nat) (r1 : Nat) (r2 : Nat) (r3 : Nat) (v4 : Int64) (v5 : Int64) (v6 : Int64) (v7 : Int32), va_at D vwCl (a, .inr (0, [.ref r0, .ref r1, .ref r2, .ref r3, .long v4, .long v5, .long v6, .int v7])) H ∧ t r0 = 17 ∧ t r1 = 18 ∧ t r2 = 19 ∧ t r3 = 20 ∧ (0 ≤ v7.toInt ∧ v7.toInt ≤ ((0 : Nat) : Int)) := by
  obtain ⟨e, h1, h2⟩ := hG a (by rw [ha]; decide)
  rw [ha] at h2
  obtain ⟨r0, r1, r2, r3, v4, v5, v6, v7, rfl, w0, w1, w2, w3, w4⟩ := h2
  exact ⟨r0, r1, r2, r3, v4, v5, v6, v7, h1, w0, w1, w2, w3, w4⟩
theorem bF_o6 {D : va_G} {cI cL cC : ClassId} {t : Nat → Nat} {H : Heap} {a : Nat} (hG : tG D (bF cI cL cC) t H) (ha : t a = 6) : ∃ (r0 : Nat) (r1 : Nat) (r2 : Nat), va_at D vwCl (a, .inr (1, [.ref r0, .ref r1, .ref r2, .int 0])) H ∧ t r0 = 21 ∧ t r1 = 22 ∧ t r2 = 23 := by
  obtain ⟨e, h1, h2⟩ := hG a (by rw [ha]; decide)
  rw [ha] at h2
  obtain ⟨r0, r1, r2, rfl, w0, w1, w2⟩ := h2
  exact ⟨r0, r1, r2, h1, w0, w1, w2⟩
theorem bF_o7 {D : va_G} {cI cL cC : ClassId} {t : Nat → Nat} {H : Heap} {a : Nat} (hG : tG D (bF cI cL cC) t H) (ha : t a = 7) : ∃ (r0 : Nat) (r1 : Nat) (r2 : Nat) (r3 : Nat) (r4 : Nat), va_at D vwCl (a, .inr (2, [.ref r0, .ref r1, .ref r2, .ref r3, .ref r4])) H ∧ t r0 = 24 ∧ t r1 = 25 ∧ t r2 = 26 ∧ t r3 = 27 ∧ t r4 = 28 := by
  obtain ⟨e, h1, h2⟩ := hG a (by rw [ha]; decide)
  rw [ha] at h2
  obtain ⟨r0, r1, r2, r3, r4, rfl, w0, w1, w2, w3, w4⟩ := h2
  exact ⟨r0, r1, r2, r3, r4, h1, w0, w1, w2, w3, w4⟩
theorem bF_o8 {D : va_G} {cI cL cC : ClassId} {t : Nat → Nat} {H : Heap} {a : Nat} (hG : tG D (bF cI cL cC) t H) (ha : t a = 8) : ∃ (r0 : Nat) (r1 : Nat) (r2 : Nat), va_at D vwCl (a, .inr (7, [.ref r0, .ref r1, .ref r2])) H ∧ t r0 = 29 ∧ t r1 = 30 ∧ t r2 = 31 := by
  obtain ⟨e, h1, h2⟩ := hG a (by rw [ha]; decide)
  rw [ha] at h2
  obtain ⟨r0, r1, r2, rfl, w0, w1, w2⟩ := h2
  exact ⟨r0, r1, r2, h1, w0, w1, w2⟩
theorem bF_o9 {D : va_G} {cI cL cC : ClassId} {t : Nat → Nat} {H : Heap} {a : Nat} (hG : tG D (bF cI cL cC) t H) (ha : t a = 9) : ∃ (r0 : Nat) (r1 : Nat) (r2 : Nat) (v3 : Int32) (v4 : Int64) (v5 : Int32) (v6 : Int32) (v7 : Int32) (v8 : Int32) (v9 : Int64), va_at D vwCl (a, .inr (4, [.ref r0, .ref r1, .ref r2, .int v3, .long v4, .int v5, .int v6, .int v7, .int v8, .long v9])) H ∧ t r0 = 32 ∧ t r1 = 33 ∧ t r2 = 34 ∧ (0 ≤ v5.toInt ∧ v5.toInt ≤ 3) ∧ (0 ≤ v6.toInt ∧ v6.toInt ≤ 6) ∧ (0 ≤ v8.toInt ∧ v8.toInt ≤ 15) := by
  obtain ⟨e, h1, h2⟩ := hG a (by rw [ha]; decide)
  rw [ha] at h2
  obtain ⟨r0, r1, r2, v3, v4, v5, v6, v7, v8, v9, rfl, w0, w1, w2, w3, w4, w5⟩ := h2
  exact ⟨r0, r1, r2, v3, v4, v5, v6, v7, v8, v9, h1, w0, w1, w2, w3, w4, w5⟩
theorem bF_o10 {D : va_G} {cI cL cC : ClassId} {t : Nat → Nat} {H : Heap} {a : Nat} (hG : tG D (bF cI cL cC) t H) (ha : t a = 10) : va_at D vwCl (a, .inl (cI, 400, .inl (fun _ => 0))) H := by
  obtain ⟨e, h1, h2⟩ := hG a (by rw [ha]; decide)
  rw [ha] at h2
  have h3 : e = .inl (cI, 400, .inl (fun _ => 0)) := h2
  rw [h3] at h1
  exact h1
theorem bF_o11 {D : va_G} {cI cL cC : ClassId} {t : Nat → Nat} {H : Heap} {a : Nat} (hG : tG D (bF cI cL cC) t H) (ha : t a = 11) : va_at D vwCl (a, .inl (cI, 6, .inl (fun _ => 0))) H := by
  obtain ⟨e, h1, h2⟩ := hG a (by rw [ha]; decide)
  rw [ha] at h2
  have h3 : e = .inl (cI, 6, .inl (fun _ => 0)) := h2
  rw [h3] at h1
  exact h1
theorem bF_o12 {D : va_G} {cI cL cC : ClassId} {t : Nat → Nat} {H : Heap} {a : Nat} (hG : tG D (bF cI cL cC) t H) (ha : t a = 12) : va_at D vwCl (a, .inl (cI, 240, .inl (fun _ => 0))) H := by
  obtain ⟨e, h1, h2⟩ := hG a (by rw [ha]; decide)
  rw [ha] at h2
  have h3 : e = .inl (cI, 240, .inl (fun _ => 0)) := h2
  rw [h3] at h1
  exact h1
theorem bF_o13 {D : va_G} {cI cL cC : ClassId} {t : Nat → Nat} {H : Heap} {a : Nat} (hG : tG D (bF cI cL cC) t H) (ha : t a = 13) : va_at D vwCl (a, .inl (cI, 16, .inl (fun _ => 0))) H := by
  obtain ⟨e, h1, h2⟩ := hG a (by rw [ha]; decide)
  rw [ha] at h2
  have h3 : e = .inl (cI, 16, .inl (fun _ => 0)) := h2
  rw [h3] at h1
  exact h1
theorem bF_o14 {D : va_G} {cI cL cC : ClassId} {t : Nat → Nat} {H : Heap} {a : Nat} (hG : tG D (bF cI cL cC) t H) (ha : t a = 14) : va_at D vwCl (a, .inl (cI, 4, .inl (fun _ => 0))) H := by
  obtain ⟨e, h1, h2⟩ := hG a (by rw [ha]; decide)
  rw [ha] at h2
  have h3 : e = .inl (cI, 4, .inl (fun _ => 0)) := h2
  rw [h3] at h1
  exact h1
theorem bF_o15 {D : va_G} {cI cL cC : ClassId} {t : Nat → Nat} {H : Heap} {a : Nat} (hG : tG D (bF cI cL cC) t H) (ha : t a = 15) : ∃ (f : Nat → Int32), va_at D vwCl (a, .inl (cI, 96, .inl f)) H := by
  obtain ⟨e, h1, h2⟩ := hG a (by rw [ha]; decide)
  rw [ha] at h2
  obtain ⟨f, rfl⟩ := h2
  exact ⟨f, h1⟩
theorem bF_o16 {D : va_G} {cI cL cC : ClassId} {t : Nat → Nat} {H : Heap} {a : Nat} (hG : tG D (bF cI cL cC) t H) (ha : t a = 16) : ∃ (f : Nat → Int32), va_at D vwCl (a, .inl (cI, 96, .inl f)) H := by
  obtain ⟨e, h1, h2⟩ := hG a (by rw [ha]; decide)
  rw [ha] at h2
  obtain ⟨f, rfl⟩ := h2
  exact ⟨f, h1⟩
theorem bF_o17 {D : va_G} {cI cL cC : ClassId} {t : Nat → Nat} {H : Heap} {a : Nat} (hG : tG D (bF cI cL cC) t H) (ha : t a = 17) : ∃ (f : Nat → Int64), va_at D vwCl (a, .inl (cL, 16, .inr (.inl f))) H := by
  obtain ⟨e, h1, h2⟩ := hG a (by rw [ha]; decide)
  rw [ha] at h2
  obtain ⟨f, rfl⟩ := h2
  exact ⟨f, h1⟩
theorem bF_o18 {D : va_G} {cI cL cC : ClassId} {t : Nat → Nat} {H : Heap} {a : Nat} (hG : tG D (bF cI cL cC) t H) (ha : t a = 18) : ∃ (f : Nat → Int64), va_at D vwCl (a, .inl (cL, 40, .inr (.inl f))) H := by
  obtain ⟨e, h1, h2⟩ := hG a (by rw [ha]; decide)
  rw [ha] at h2
  obtain ⟨f, rfl⟩ := h2
  exact ⟨f, h1⟩
theorem bF_o19 {D : va_G} {cI cL cC : ClassId} {t : Nat → Nat} {H : Heap} {a : Nat} (hG : tG D (bF cI cL cC) t H) (ha : t a = 19) : ∃ (f : Nat → Int32), va_at D vwCl (a, .inl (cI, 4, .inl f)) H := by
  obtain ⟨e, h1, h2⟩ := hG a (by rw [ha]; decide)
  rw [ha] at h2
  obtain ⟨f, rfl⟩ := h2
  exact ⟨f, h1⟩
theorem bF_o20 {D : va_G} {cI cL cC : ClassId} {t : Nat → Nat} {H : Heap} {a : Nat} (hG : tG D (bF cI cL cC) t H) (ha : t a = 20) : ∃ (f : Nat → Int64), va_at D vwCl (a, .inl (cL, 208, .inr (.inl f))) H := by
  obtain ⟨e, h1, h2⟩ := hG a (by rw [ha]; decide)
  rw [ha] at h2
  obtain ⟨f, rfl⟩ := h2
  exact ⟨f, h1⟩
theorem bF_o21 {D : va_G} {cI cL cC : ClassId} {t : Nat → Nat} {H : Heap} {a : Nat} (hG : tG D (bF cI cL cC) t H) (ha : t a = 21) : ∃ (f : Nat → Int32), va_at D vwCl (a, .inl (cI, 4, .inl f)) H ∧ (∀ j : Nat, j < 4 → f j = (-4)) := by
  obtain ⟨e, h1, h2⟩ := hG a (by rw [ha]; decide)
  rw [ha] at h2
  obtain ⟨f, rfl, w0⟩ := h2
  exact ⟨f, h1, w0⟩
theorem bF_o22 {D : va_G} {cI cL cC : ClassId} {t : Nat → Nat} {H : Heap} {a : Nat} (hG : tG D (bF cI cL cC) t H) (ha : t a = 22) : va_at D vwCl (a, .inl (cI, 4, .inl (fun _ => 0))) H := by
  obtain ⟨e, h1, h2⟩ := hG a (by rw [ha]; decide)
  rw [ha] at h2
  have h3 : e = .inl (cI, 4, .inl (fun _ => 0)) := h2
  rw [h3] at h1
  exact h1
theorem bF_o23 {D : va_G} {cI cL cC : ClassId} {t : Nat → Nat} {H : Heap} {a : Nat} (hG : tG D (bF cI cL cC) t H) (ha : t a = 23) : ∃ (f : Nat → Int32), va_at D vwCl (a, .inl (cI, 384, .inl f)) H ∧ (∀ j : Nat, j < 384 → f j = (-1)) := by
  obtain ⟨e, h1, h2⟩ := hG a (by rw [ha]; decide)
  rw [ha] at h2
  obtain ⟨f, rfl, w0⟩ := h2
  exact ⟨f, h1, w0⟩
theorem bF_o24 {D : va_G} {cI cL cC : ClassId} {t : Nat → Nat} {H : Heap} {a : Nat} (hG : tG D (bF cI cL cC) t H) (ha : t a = 24) : ∃ (f : Nat → Int32), va_at D vwCl (a, .inl (cI, 2, .inl f)) H := by
  obtain ⟨e, h1, h2⟩ := hG a (by rw [ha]; decide)
  rw [ha] at h2
  obtain ⟨f, rfl⟩ := h2
  exact ⟨f, h1⟩
theorem bF_o25 {D : va_G} {cI cL cC : ClassId} {t : Nat → Nat} {H : Heap} {a : Nat} (hG : tG D (bF cI cL cC) t H) (ha : t a = 25) : ∃ (f : Nat → Int32), va_at D vwCl (a, .inl (cI, 2, .inl f)) H := by
  obtain ⟨e, h1, h2⟩ := hG a (by rw [ha]; decide)
  rw [ha] at h2
  obtain ⟨f, rfl⟩ := h2
  exact ⟨f, h1⟩
theorem bF_o26 {D : va_G} {cI cL cC : ClassId} {t : Nat → Nat} {H : Heap} {a : Nat} (hG : tG D (bF cI cL cC) t H) (ha : t a = 26) : ∃ (f : Nat → Int32), va_at D vwCl (a, .inl (cI, 2, .inl f)) H := by
  obtain ⟨e, h1, h2⟩ := hG a (by rw [ha]; decide)
  rw [ha] at h2
  obtain ⟨f, rfl⟩ := h2
  exact ⟨f, h1⟩
theorem bF_o27 {D : va_G} {cI cL cC : ClassId} {t : Nat → Nat} {H : Heap} {a : Nat} (hG : tG D (bF cI cL cC) t H) (ha : t a = 27) : ∃ (f : Nat → Int32), va_at D vwCl (a, .inl (cI, 2, .inl f)) H := by
  obtain ⟨e, h1, h2⟩ := hG a (by rw [ha]; decide)
  rw [ha] at h2
  obtain ⟨f, rfl⟩ := h2
  exact ⟨f, h1⟩
theorem bF_o28 {D : va_G} {cI cL cC : ClassId} {t : Nat → Nat} {H : Heap} {a : Nat} (hG : tG D (bF cI cL cC) t H) (ha : t a = 28) : ∃ (f : Nat → Int32), va_at D vwCl (a, .inl (cI, 2, .inl f)) H ∧ gMany f := by
  obtain ⟨e, h1, h2⟩ := hG a (by rw [ha]; decide)
  rw [ha] at h2
  obtain ⟨f, rfl, w0⟩ := h2
  exact ⟨f, h1, w0⟩
theorem bF_o29 {D : va_G} {cI cL cC : ClassId} {t : Nat → Nat} {H : Heap} {a : Nat} (hG : tG D (bF cI cL cC) t H) (ha : t a = 29) : va_at D vwCl (a, .inl (cI, 4, .inl (fun _ => 0))) H := by
  obtain ⟨e, h1, h2⟩ := hG a (by rw [ha]; decide)
  rw [ha] at h2
  have h3 : e = .inl (cI, 4, .inl (fun _ => 0)) := h2
  rw [h3] at h1
  exact h1
theorem bF_o30 {D : va_G} {cI cL cC : ClassId} {t : Nat → Nat} {H : Heap} {a : Nat} (hG : tG D (bF cI cL cC) t H) (ha : t a = 30) : ∃ (f : Nat → Int32), va_at D vwCl (a, .inl (cI, 4, .inl f)) H := by
  obtain ⟨e, h1, h2⟩ := hG a (by rw [ha]; decide)
  rw [ha] at h2
  obtain ⟨f, rfl⟩ := h2
  exact ⟨f, h1⟩
theorem bF_o31 {D : va_G} {cI cL cC : ClassId} {t : Nat → Nat} {H : Heap} {a : Nat} (hG : tG D (bF cI cL cC) t H) (ha : t a = 31) : va_at D vwCl (a, .inl (cI, 96, .inl (fun _ => 0))) H := by
  obtain ⟨e, h1, h2⟩ := hG a (by rw [ha]; decide)
  rw [ha] at h2
  have h3 : e = .inl (cI, 96, .inl (fun _ => 0)) := h2
  rw [h3] at h1
  exact h1
theorem bF_o32 {D : va_G} {cI cL cC : ClassId} {t : Nat → Nat} {H : Heap} {a : Nat} (hG : tG D (bF cI cL cC) t H) (ha : t a = 32) : ∃ (f : Nat → Option Nat), va_at D vwCl (a, .inl (cC, 4, .inr (.inr (.inr (.inr f))))) H ∧ (∀ j : Nat, j < 4 → ∃ x : Nat, f j = some x ∧ t x = 5) := by
  obtain ⟨e, h1, h2⟩ := hG a (by rw [ha]; decide)
  rw [ha] at h2
  obtain ⟨f, rfl, w0⟩ := h2
  exact ⟨f, h1, w0⟩
theorem bF_o33 {D : va_G} {cI cL cC : ClassId} {t : Nat → Nat} {H : Heap} {a : Nat} (hG : tG D (bF cI cL cC) t H) (ha : t a = 33) : ∃ (f : Nat → Int32), va_at D vwCl (a, .inl (cI, 4, .inl f)) H := by
  obtain ⟨e, h1, h2⟩ := hG a (by rw [ha]; decide)
  rw [ha] at h2
  obtain ⟨f, rfl⟩ := h2
  exact ⟨f, h1⟩
theorem bF_o34 {D : va_G} {cI cL cC : ClassId} {t : Nat → Nat} {H : Heap} {a : Nat} (hG : tG D (bF cI cL cC) t H) (ha : t a = 34) : ∃ (f : Nat → Int32), va_at D vwCl (a, .inl (cI, 4, .inl f)) H := by
  obtain ⟨e, h1, h2⟩ := hG a (by rw [ha]; decide)
  rw [ha] at h2
  obtain ⟨f, rfl⟩ := h2
  exact ⟨f, h1⟩
theorem bF_o35 {D : va_G} {cI cL cC : ClassId} {t : Nat → Nat} {H : Heap} {a : Nat} (hG : tG D (bF cI cL cC) t H) (ha : t a = 35) : ∃ (f : Nat → Int32), va_at D vwCl (a, .inl (cI, 16, .inl f)) H := by
  obtain ⟨e, h1, h2⟩ := hG a (by rw [ha]; decide)
  rw [ha] at h2
  obtain ⟨f, rfl⟩ := h2
  exact ⟨f, h1⟩
theorem bF_o36 {D : va_G} {cI cL cC : ClassId} {t : Nat → Nat} {H : Heap} {a : Nat} (hG : tG D (bF cI cL cC) t H) (ha : t a = 36) : ∃ (f : Nat → Option Nat), va_at D vwCl (a, .inl (cC, 3, .inr (.inr (.inr (.inr f))))) H ∧ (∀ j : Nat, j < 3 → ∃ x : Nat, f j = some x ∧ t x = 5) := by
  obtain ⟨e, h1, h2⟩ := hG a (by rw [ha]; decide)
  rw [ha] at h2
  obtain ⟨f, rfl, w0⟩ := h2
  exact ⟨f, h1, w0⟩
theorem bF_o37 {D : va_G} {cI cL cC : ClassId} {t : Nat → Nat} {H : Heap} {a : Nat} (hG : tG D (bF cI cL cC) t H) (ha : t a = 37) : ∃ (r0 : Nat) (r1 : Nat) (r2 : Nat), va_at D vwCl (a, .inr (3, [.ref r0, .ref r1, .ref r2, .int 0, .int 0, .int 0])) H ∧ t r0 = 38 ∧ t r1 = 39 ∧ t r2 = 40 := by
  obtain ⟨e, h1, h2⟩ := hG a (by rw [ha]; decide)
  rw [ha] at h2
  obtain ⟨r0, r1, r2, rfl, w0, w1, w2⟩ := h2
  exact ⟨r0, r1, r2, h1, w0, w1, w2⟩
theorem bF_o38 {D : va_G} {cI cL cC : ClassId} {t : Nat → Nat} {H : Heap} {a : Nat} (hG : tG D (bF cI cL cC) t H) (ha : t a = 38) : va_at D vwCl (a, .inl (cI, 240, .inl (fun _ => 0))) H := by
  obtain ⟨e, h1, h2⟩ := hG a (by rw [ha]; decide)
  rw [ha] at h2
  have h3 : e = .inl (cI, 240, .inl (fun _ => 0)) := h2
  rw [h3] at h1
  exact h1
theorem bF_o39 {D : va_G} {cI cL cC : ClassId} {t : Nat → Nat} {H : Heap} {a : Nat} (hG : tG D (bF cI cL cC) t H) (ha : t a = 39) : va_at D vwCl (a, .inl (cI, 16, .inl (fun _ => 0))) H := by
  obtain ⟨e, h1, h2⟩ := hG a (by rw [ha]; decide)
  rw [ha] at h2
  have h3 : e = .inl (cI, 16, .inl (fun _ => 0)) := h2
  rw [h3] at h1
  exact h1
theorem bF_o40 {D : va_G} {cI cL cC : ClassId} {t : Nat → Nat} {H : Heap} {a : Nat} (hG : tG D (bF cI cL cC) t H) (ha : t a = 40) : va_at D vwCl (a, .inl (cI, 4, .inl (fun _ => 0))) H := by
  obtain ⟨e, h1, h2⟩ := hG a (by rw [ha]; decide)
  rw [ha] at h2
  have h3 : e = .inl (cI, 4, .inl (fun _ => 0)) := h2
  rw [h3] at h1
  exact h1
theorem bF_o41 {D : va_G} {cI cL cC : ClassId} {t : Nat → Nat} {H : Heap} {a : Nat} (hG : tG D (bF cI cL cC) t H) (ha : t a = 41) : ∃ (r0 : Nat) (r1 : Nat) (r2 : Nat), va_at D vwCl (a, .inr (3, [.ref r0, .ref r1, .ref r2, .int 0, .int 0, .int 0])) H ∧ t r0 = 42 ∧ t r1 = 43 ∧ t r2 = 44 := by
  obtain ⟨e, h1, h2⟩ := hG a (by rw [ha]; decide)
  rw [ha] at h2
  obtain ⟨r0, r1, r2, rfl, w0, w1, w2⟩ := h2
  exact ⟨r0, r1, r2, h1, w0, w1, w2⟩
theorem bF_o42 {D : va_G} {cI cL cC : ClassId} {t : Nat → Nat} {H : Heap} {a : Nat} (hG : tG D (bF cI cL cC) t H) (ha : t a = 42) : va_at D vwCl (a, .inl (cI, 240, .inl (fun _ => 0))) H := by
  obtain ⟨e, h1, h2⟩ := hG a (by rw [ha]; decide)
  rw [ha] at h2
  have h3 : e = .inl (cI, 240, .inl (fun _ => 0)) := h2
  rw [h3] at h1
  exact h1
theorem bF_o43 {D : va_G} {cI cL cC : ClassId} {t : Nat → Nat} {H : Heap} {a : Nat} (hG : tG D (bF cI cL cC) t H) (ha : t a = 43) : va_at D vwCl (a, .inl (cI, 16, .inl (fun _ => 0))) H := by
  obtain ⟨e, h1, h2⟩ := hG a (by rw [ha]; decide)
  rw [ha] at h2
  have h3 : e = .inl (cI, 16, .inl (fun _ => 0)) := h2
  rw [h3] at h1
  exact h1
theorem bF_o44 {D : va_G} {cI cL cC : ClassId} {t : Nat → Nat} {H : Heap} {a : Nat} (hG : tG D (bF cI cL cC) t H) (ha : t a = 44) : va_at D vwCl (a, .inl (cI, 4, .inl (fun _ => 0))) H := by
  obtain ⟨e, h1, h2⟩ := hG a (by rw [ha]; decide)
  rw [ha] at h2
  have h3 : e = .inl (cI, 4, .inl (fun _ => 0)) := h2
  rw [h3] at h1
  exact h1
theorem bF_hF {cI cL cC : ClassId} {gV gN : Nat → Int32} {t : Nat → Nat} : ∀ {k : Nat} {e : va_E}, k ≠ 21 → k ≠ 23 → bF cI cL cC t k e → hF cI cL cC 0 0 (fun _ => 0) (fun _ => 0) 0 0 0 (fun _ => 0) (fun _ => 0) (fun _ => 0) 0 0 0 (fun _ => 0) (fun _ => 0) (fun _ => 0) 0 0 0 (fun _ => 0) (fun _ => 0) (fun _ => 0) 0 0 0 0 gV (fun _ => 0) gN 0 (fun _ => 0) (fun _ => 0) t k e
  | 0, _, _, _, h => h
  | 1, _, _, _, h => h
  | 2, _, _, _, h => h
  | 3, _, _, _, h => h
  | 4, _, _, _, h => h
  | 5, _, _, _, h => h
  | 6, _, _, _, h => h
  | 7, _, _, _, h => h
  | 8, _, _, _, h => h
  | 9, _, _, _, h => h
  | 10, _, _, _, h => h
  | 11, _, _, _, h => h
  | 12, _, _, _, h => h
  | 13, _, _, _, h => h
  | 14, _, _, _, h => h
  | 15, _, _, _, h => h
  | 16, _, _, _, h => h
  | 17, _, _, _, h => h
  | 18, _, _, _, h => h
  | 19, _, _, _, h => h
  | 20, _, _, _, h => h
  | 21, _, h, _, _ => absurd rfl h
  | 22, _, _, _, h => h
  | 23, _, _, h, _ => absurd rfl h
  | 24, _, _, _, h => h
  | 25, _, _, _, h => h
  | 26, _, _, _, h => h
  | 27, _, _, _, h => h
  | 28, _, _, _, h => h
  | 29, _, _, _, h => h
  | 30, _, _, _, h => h
  | 31, _, _, _, h => h
  | 32, _, _, _, h => h
  | 33, _, _, _, h => h
  | 34, _, _, _, h => h
  | 35, _, _, _, h => h
  | 36, _, _, _, h => h
  | 37, _, _, _, h => h
  | 38, _, _, _, h => h
  | 39, _, _, _, h => h
  | 40, _, _, _, h => h
  | 41, _, _, _, h => h
  | 42, _, _, _, h => h
  | 43, _, _, _, h => h
  | 44, _, _, _, h => h
  | _ + 45, _, _, _, h => h
theorem birth {D : va_G} {cI cL cC : ClassId} {t : Nat → Nat} {H : Heap} (hB : tG D (bF cI cL cC) t H) (uq : ∀ b c : Nat, t b = t c → uqK (t b) = true → b = c) (a1 a2 : Nat) (h1 : t a1 = 21) (h2 : t a2 = 23) : ∃ gV gN : Nat → Int32, (∀ j : Nat, j < 4 → gV j = -4) ∧ (∀ j : Nat, j < 384 → gN j = -1) ∧ tG D (hF cI cL cC 0 0 (fun _ => 0) (fun _ => 0) 0 0 0 (fun _ => 0) (fun _ => 0) (fun _ => 0) 0 0 0 (fun _ => 0) (fun _ => 0) (fun _ => 0) 0 0 0 (fun _ => 0) (fun _ => 0) (fun _ => 0) 0 0 0 0 gV (fun _ => 0) gN 0 (fun _ => 0) (fun _ => 0)) t H := by
  obtain ⟨f, at1, hf⟩ := bF_o21 hB h1
  obtain ⟨g, at2, hg⟩ := bF_o23 hB h2
  refine ⟨f, g, hf, hg, fun a ha => ?_⟩
  obtain ⟨e, g1, g2⟩ := hB a ha
  by_cases q1 : t a = 21
  · have hh : a = a1 := uq a a1 (q1.trans h1.symm) (by rw [q1]; rfl)
    rw [hh]
    exact ⟨_, at1, by rw [h1]; exact rfl⟩
  · by_cases q2 : t a = 23
    · have hh : a = a2 := uq a a2 (q2.trans h2.symm) (by rw [q2]; rfl)
      rw [hh]
      exact ⟨_, at2, by rw [h2]; exact rfl⟩
    · exact ⟨e, g1, bF_hF q1 q2 g2⟩
