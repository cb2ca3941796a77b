def fF (cI cL cC : ClassId) (gC : Int32) (gR : Int32) : tFT := fun t k e => match k with
  | 1 => ∃ (r0 : Nat) (r1 : Nat) (r2 : Nat) (r3 : Nat) (r6 : Nat) (r7 : Nat) (r8 : Nat) (r9 : Nat) (r10 : Nat) (r11 : Nat) (r12 : Nat) (r14 : Nat) (r15 : Nat) (r16 : Nat) (r17 : Nat), e = .inr (8, [.ref r0, .ref r1, .ref r2, .ref r3, .int 0, .int 0, .ref r6, .ref r7, .ref r8, .ref r9, .ref r10, .ref r11, .ref r12, .int 0, .ref r14, .ref r15, .ref r16, .ref r17]) ∧ t r0 = 2 ∧ t r1 = 3 ∧ t r2 = 3 ∧ t r3 = 3 ∧ t r6 = 4 ∧ t r7 = 4 ∧ t r8 = 35 ∧ t r9 = 5 ∧ t r10 = 5 ∧ t r11 = 5 ∧ t r12 = 36 ∧ t r14 = 6 ∧ t r15 = 7 ∧ t r16 = 8 ∧ t r17 = 9
  | 2 => ∃ (r0 : Nat) (r1 : Nat) (v3 : Int32), e = .inr (6, [.ref r0, .ref r1, .int gC, .int v3]) ∧ t r0 = 10 ∧ t r1 = 11
  | 3 => ∃ (r0 : Nat) (r1 : Nat) (r2 : Nat), e = .inr (3, [.ref r0, .ref r1, .ref r2, .int 0, .int 0, .int 0]) ∧ t r0 = 12 ∧ t r1 = 13 ∧ t r2 = 14
  | 4 => ∃ (r0 : Nat) (r1 : Nat), e = .inr (5, [.ref r0, .ref r1]) ∧ t r0 = 15 ∧ t r1 = 16
  | 5 => ∃ (r0 : Nat) (r1 : Nat) (r2 : Nat) (r3 : Nat) (v4 : Int64) (v5 : Int64) (v6 : Int64), e = .inr (0, [.ref r0, .ref r1, .ref r2, .ref r3, .long v4, .long v5, .long v6, .int 0]) ∧ t r0 = 17 ∧ t r1 = 18 ∧ t r2 = 19 ∧ t r3 = 20
  | 6 => ∃ (r0 : Nat) (r1 : Nat) (r2 : Nat), e = .inr (1, [.ref r0, .ref r1, .ref r2, .int 0]) ∧ t r0 = 21 ∧ t r1 = 22 ∧ t r2 = 23
  | 7 => ∃ (r0 : Nat) (r1 : Nat) (r2 : Nat) (r3 : Nat) (r4 : Nat), e = .inr (2, [.ref r0, .ref r1, .ref r2, .ref r3, .ref r4]) ∧ t r0 = 24 ∧ t r1 = 25 ∧ t r2 = 26 ∧ t r3 = 27 ∧ t r4 = 28
  | 8 => ∃ (r0 : Nat) (r1 : Nat) (r2 : Nat), e = .inr (7, [.ref r0, .ref r1, .ref r2]) ∧ t r0 = 29 ∧ t r1 = 30 ∧ t r2 = 31
  | 9 => ∃ (r0 : Nat) (r1 : Nat) (r2 : Nat) (v3 : Int32) (v4 : Int64) (v5 : Int32) (v6 : Int32) (v7 : Int32) (v8 : Int32) (v9 : Int64), e = .inr (4, [.ref r0, .ref r1, .ref r2, .int v3, .long v4, .int v5, .int v6, .int v7, .int v8, .long v9]) ∧ t r0 = 32 ∧ t r1 = 33 ∧ t r2 = 34
  | 10 => ∃ (f : Nat → Int32), e = .inl (cI, 400, .inl f)
  | 11 => ∃ (f : Nat → Int32), e = .inl (cI, 6, .inl f)
  | 12 => ∃ (f : Nat → Int32), e = .inl (cI, 240, .inl f)
  | 13 => ∃ (f : Nat → Int32), e = .inl (cI, 16, .inl f)
  | 14 => ∃ (f : Nat → Int32), e = .inl (cI, 4, .inl f)
  | 15 => ∃ (f : Nat → Int32), e = .inl (cI, 96, .inl f)
  | 16 => ∃ (f : Nat → Int32), e = .inl (cI, 96, .inl f)
  | 17 => ∃ (f : Nat → Int64), e = .inl (cL, 16, .inr (.inl f))
  | 18 => ∃ (f : Nat → Int64), e = .inl (cL, 40, .inr (.inl f))
  | 19 => ∃ (f : Nat → Int32), e = .inl (cI, 4, .inl f)
  | 20 => ∃ (f : Nat → Int64), e = .inl (cL, 208, .inr (.inl f))
  | 21 => ∃ (f : Nat → Int32), e = .inl (cI, 4, .inl f) ∧ (∀ j : Nat, j < 4 → f j = (-4))
  | 22 => ∃ (f : Nat → Int32), e = .inl (cI, 4, .inl f)
  | 23 => ∃ (f : Nat → Int32), e = .inl (cI, 384, .inl f) ∧ (∀ j : Nat, j < 384 → f j = (-1))
  | 24 => ∃ (f : Nat → Int32), e = .inl (cI, 2, .inl f)
  | 25 => ∃ (f : Nat → Int32), e = .inl (cI, 2, .inl f)
  | 26 => ∃ (f : Nat → Int32), e = .inl (cI, 2, .inl f)
  | 27 => ∃ (f : Nat → Int32), e = .inl (cI, 2, .inl f)
  | 28 => ∃ (f : Nat → Int32), e = .inl (cI, 2, .inl f) ∧ (∀ j : Nat, j < 2 → f j = 0)
  | 29 => ∃ (f : Nat → Int32), e = .inl (cI, 4, .inl f) ∧ (∀ j : Nat, j < 4 → f j = 0)
  | 30 => ∃ (f : Nat → Int32), e = .inl (cI, 4, .inl f) ∧ (∀ j : Nat, j < 4 → f j = 0)
  | 31 => ∃ (f : Nat → Int32), e = .inl (cI, 96, .inl f) ∧ (∀ j : Nat, j < 96 → f j = 0)
  | 32 => ∃ (f : Nat → Option Nat), e = .inl (cC, 4, .inr (.inr (.inr (.inr f)))) ∧ (∀ j : Nat, j < 4 → ∃ x : Nat, f j = some x ∧ t x = 5)
  | 33 => ∃ (f : Nat → Int32), e = .inl (cI, 4, .inl f)
  | 34 => ∃ (f : Nat → Int32), e = .inl (cI, 4, .inl f)
  | 35 => ∃ (f : Nat → Int32), e = .inl (cI, 16, .inl f)
  | 36 => ∃ (f : Nat → Option Nat), e = .inl (cC, 3, .inr (.inr (.inr (.inr f)))) ∧ (∀ j : Nat, j < 3 → ∃ x : Nat, f j = some x ∧ t x = 5)
  | 40 => ∃ (r1 : Nat) (r4 : Nat) (r5 : Nat) (r6 : Nat) (r7 : Nat) (r9 : Nat) (r10 : Nat) (r11 : Nat) (r12 : Nat) (r14 : Nat) (r15 : Nat) (r16 : Nat) (r18 : Nat) (r19 : Nat) (r20 : Nat) (r21 : Nat) (r22 : Nat) (r23 : Nat) (r24 : Nat) (r25 : Nat) (r26 : Nat) (v27 : Int32) (v28 : Int32) (v29 : Int32) (v30 : Int32) (v31 : Int32) (r32 : Nat) (v34 : Int32) (r35 : Nat), e = .inr (9, [.int gR, .ref r1, .int 0, .int 0, .ref r4, .ref r5, .ref r6, .ref r7, .int 0, .ref r9, .ref r10, .ref r11, .ref r12, .int 0, .ref r14, .ref r15, .ref r16, .int 0, .ref r18, .ref r19, .ref r20, .ref r21, .ref r22, .ref r23, .ref r24, .ref r25, .ref r26, .int v27, .int v28, .int v29, .int v30, .int v31, .ref r32, .int 0, .int v34, .ref r35]) ∧ t r1 = 41 ∧ t r4 = 42 ∧ t r5 = 43 ∧ t r6 = 44 ∧ t r7 = 45 ∧ t r9 = 46 ∧ t r10 = 47 ∧ t r11 = 48 ∧ t r12 = 49 ∧ t r14 = 50 ∧ t r15 = 51 ∧ t r16 = 52 ∧ t r18 = 53 ∧ t r19 = 54 ∧ t r20 = 55 ∧ t r21 = 56 ∧ t r22 = 57 ∧ t r23 = 58 ∧ t r24 = 59 ∧ t r25 = 60 ∧ t r26 = 61 ∧ t r32 = 62 ∧ t r35 = 63
  | 41 => ∃ (f : Nat → Int32), e = .inl (cI, 400, .inl f)
  | 42 => ∃ (f : Nat → Int32), e = .inl (cI, 120, .inl f)
  | 43 => ∃ (f : Nat → Int32), e = .inl (cI, 120, .inl f)
  | 44 => ∃ (f : Nat → Int32), e = .inl (cI, 120, .inl f)
  | 45 => ∃ (f : Nat → Int32), e = .inl (cI, 360, .inl f)
  | 46 => ∃ (f : Nat → Int32), e = .inl (cI, 384, .inl f)
  | 47 => ∃ (f : Nat → Int64), e = .inl (cL, 280, .inr (.inl f)) ∧ (∀ j : Nat, j < 280 → f j = 0)
  | 48 => ∃ (f : Nat → Int64), e = .inl (cL, 280, .inr (.inl f))
  | 49 => ∃ (f : Nat → Int64), e = .inl (cL, 840, .inr (.inl f))
  | 50 => ∃ (f : Nat → Int32), e = .inl (cI, 4, .inl f) ∧ (∀ j : Nat, j < 4 → f j = (-4))
  | 51 => ∃ (f : Nat → Int32), e = .inl (cI, 4, .inl f)
  | 52 => ∃ (f : Nat → Int32), e = .inl (cI, 384, .inl f) ∧ (∀ j : Nat, j < 384 → f j = (-1))
  | 53 => ∃ (f : Nat → Int32), e = .inl (cI, 2, .inl f)
  | 54 => ∃ (f : Nat → Int32), e = .inl (cI, 2, .inl f)
  | 55 => ∃ (f : Nat → Int32), e = .inl (cI, 2, .inl f)
  | 56 => ∃ (f : Nat → Int32), e = .inl (cI, 2, .inl f)
  | 57 => ∃ (f : Nat → Int32), e = .inl (cI, 2, .inl f) ∧ (∀ j : Nat, j < 2 → f j = 0)
  | 58 => ∃ (f : Nat → Int32), e = .inl (cI, 4, .inl f) ∧ (∀ j : Nat, j < 4 → f j = 0)
  | 59 => ∃ (f : Nat → Int32), e = .inl (cI, 96, .inl f) ∧ (∀ j : Nat, j < 96 → f j = 0)
  | 60 => ∃ (f : Nat → Int32), e = .inl (cI, 4, .inl f) ∧ (∀ j : Nat, j < 4 → f j = 0)
  | 61 => ∃ (f : Nat → Int32), e = .inl (cI, 16, .inl f)
  | 62 => ∃ (f : Nat → Int32), e = .inl (cI, 3, .inl f)
  | 63 => ∃ (f : Nat → Int64), e = .inl (cL, 96, .inr (.inl f))
  | _ => False
theorem fF_o1 {D : va_G} {cI cL cC : ClassId} {gC : Int32} {gR : Int32} {t : Nat → Nat} {H : Heap} {a : Nat} (hG : tG D (fF cI cL cC gC gR) t H) (ha : t a = 1) : ∃ (r0 : Nat) (r1 : Nat) (r2 : Nat) (r3 : Nat) (r6 : Nat) (r7 : Nat) (r8 : Nat) (r9 : Nat) (r10 : Nat) (r11 : Nat) (r12 : Nat) (r14 : Nat) (r15 : Nat) (r16 : Nat) (r17 : Nat), va_at D vwCl (a, .inr (8, [.ref r0, .ref r1, .ref r2, .ref r3, .int 0, .int 0, .ref r6, .ref r7, .ref r8, .ref r9, .ref r10, .ref r11, .ref r12, .int 0, .ref r14, .ref r15, .ref r16, .ref r17])) H ∧ t r0 = 2 ∧ t r1 = 3 ∧ t r2 = 3 ∧ t r3 = 3 ∧ t r6 = 4 ∧ t r7 = 4 ∧ t r8 = 35 ∧ t r9 = 5 ∧ t r10 = 5 ∧ t r11 = 5 ∧ t r12 = 36 ∧ t r14 = 6 ∧ t r15 = 7 ∧ t r16 = 8 ∧ t r17 = 9 := by
  obtain ⟨e, h1, h2⟩ := hG a (by rw [ha]; decide)
  rw [ha] at h2
  obtain ⟨r0, r1, r2, r3, r6, r7, r8, r9, r10, r11, r12, r14, r15, r16, r17, rfl, w0, w1, w2, w3, w4, w5, w6, w7, w8, w9, w10, w11, w12, w13, w14⟩ := h2
  exact ⟨r0, r1, r2, r3, r6, r7, r8, r9, r10, r11, r12, r14, r15, r16, r17, h1, w0, w1, w2, w3, w4, w5, w6, w7, w8, w9, w10, w11, w12, w13, w14⟩
theorem fF_o2 {D : va_G} {cI cL cC : ClassId} {gC : Int32} {gR : Int32} {t : Nat → Nat} {H : Heap} {a : Nat} (hG : tG D (fF cI cL cC gC gR) t H) (ha : t a = 2) : ∃ (r0 : Nat) (r1 : Nat) (v3 : Int32), va_at D vwCl (a, .inr (6, [.ref r0, .ref r1, .int gC, .int v3])) H ∧ t r0 = 10 ∧ t r1 = 11 := by
  obtain ⟨e, h1, h2⟩ := hG a (by rw [ha]; decide)
  rw [ha] at h2
  obtain ⟨r0, r1, v3, rfl, w0, w1⟩ := h2
  exact ⟨r0, r1, v3, h1, w0, w1⟩
theorem fF_o3 {D : va_G} {cI cL cC : ClassId} {gC : Int32} {gR : Int32} {t : Nat → Nat} {H : Heap} {a : Nat} (hG : tG D (fF cI cL cC gC gR) t H) (ha : t a = 3) : ∃ (r0 : Nat) (r1 : Nat) (r2 : Nat), va_at D vwCl (a, .inr (3, [.ref r0, .ref r1, .ref r2, .int 0, .int 0, .int 0])) H ∧ t r0 = 12 ∧ t r1 = 13 ∧ t r2 = 14 := by
  obtain ⟨e, h1, h2⟩ := hG a (by rw [ha]; decide)
  rw [ha] at h2
  obtain ⟨r0, r1, r2, rfl, w0, w1, w2⟩ := h2
  exact ⟨r0, r1, r2, h1, w0, w1, w2⟩
theorem fF_o4 {D : va_G} {cI cL cC : ClassId} {gC : Int32} {gR : Int32} {t : Nat → Nat} {H : Heap} {a : Nat} (hG : tG D (fF cI cL cC gC gR) t H) (ha : t a = 4) : ∃ (r0 : Nat) (r1 : Nat), va_at D vwCl (a, .inr (5, [.ref r0, .ref r1])) H ∧ t r0 = 15 ∧ t r1 = 16 := by
  obtain ⟨e, h1, h2⟩ := hG a (by rw [ha]; decide)
  rw [ha] at h2
  obtain ⟨r0, r1, rfl, w0, w1⟩ := h2
  exact ⟨r0, r1, h1, w0, w1⟩
theorem fF_o5 {D : va_G} {cI cL cC : ClassId} {gC : Int32} {gR : Int32} {t : Nat → Nat} {H : Heap} {a : Nat} (hG : tG D (fF cI cL cC gC gR) t H) (ha : t a = 5) : ∃ (r0 : Nat) (r1 : Nat) (r2 : Nat) (r3 : Nat) (v4 : Int64) (v5 : Int64) (v6 : Int64), va_at D vwCl (a, .inr (0, [.ref r0, .ref r1, .ref r2, .ref r3, .long v4, .long v5, .long v6, .int 0])) H ∧ t r0 = 17 ∧ t r1 = 18 ∧ t r2 = 19 ∧ t r3 = 20 := by
  obtain ⟨e, h1, h2⟩ := hG a (by rw [ha]; decide)
  rw [ha] at h2
  obtain ⟨r0, r1, r2, r3, v4, v5, v6, rfl, w0, w1, w2, w3⟩ := h2
  exact ⟨r0, r1, r2, r3, v4, v5, v6, h1, w0, w1, w2, w3⟩
theorem fF_o6 {D : va_G} {cI cL cC : ClassId} {gC : Int32} {gR : Int32} {t : Nat → Nat} {H : Heap} {a : Nat} (hG : tG D (fF cI cL cC gC gR) t H) (ha : t a = 6) : ∃ (r0 : Nat) (r1 : Nat) (r2 : Nat), va_at D vwCl (a, .inr (1, [.ref r0, .ref r1, .ref r2, .int 0])) H ∧ t r0 = 21 ∧ t r1 = 22 ∧ t r2 = 23 := by
  obtain ⟨e, h1, h2⟩ := hG a (by rw [ha]; decide)
  rw [ha] at h2
  obtain ⟨r0, r1, r2, rfl, w0, w1, w2⟩ := h2
  exact ⟨r0, r1, r2, h1, w0, w1, w2⟩
theorem fF_o7 {D : va_G} {cI cL cC : ClassId} {gC : Int32} {gR : Int32} {t : Nat → Nat} {H : Heap} {a : Nat} (hG : tG D (fF cI cL cC gC gR) t H) (ha : t a = 7) : ∃ (r0 : Nat) (r1 : Nat) (r2 : Nat) (r3 : Nat) (r4 : Nat), va_at D vwCl (a, .inr (2, [.ref r0, .ref r1, .ref r2, .ref r3, .ref r4])) H ∧ t r0 = 24 ∧ t r1 = 25 ∧ t r2 = 26 ∧ t r3 = 27 ∧ t r4 = 28 := by
  obtain ⟨e, h1, h2⟩ := hG a (by rw [ha]; decide)
  rw [ha] at h2
  obtain ⟨r0, r1, r2, r3, r4, rfl, w0, w1, w2, w3, w4⟩ := h2
  exact ⟨r0, r1, r2, r3, r4, h1, w0, w1, w2, w3, w4⟩
theorem fF_o8 {D : va_G} {cI cL cC : ClassId} {gC : Int32} {gR : Int32} {t : Nat → Nat} {H : Heap} {a : Nat} (hG : tG D (fF cI cL cC gC gR) t H) (ha : t a = 8) : ∃ (r0 : Nat) (r1 : Nat) (r2 : Nat), va_at D vwCl (a, .inr (7, [.ref r0, .ref r1, .ref r2])) H ∧ t r0 = 29 ∧ t r1 = 30 ∧ t r2 = 31 := by
  obtain ⟨e, h1, h2⟩ := hG a (by rw [ha]; decide)
  rw [ha] at h2
  obtain ⟨r0, r1, r2, rfl, w0, w1, w2⟩ := h2
  exact ⟨r0, r1, r2, h1, w0, w1, w2⟩
theorem fF_o9 {D : va_G} {cI cL cC : ClassId} {gC : Int32} {gR : Int32} {t : Nat → Nat} {H : Heap} {a : Nat} (hG : tG D (fF cI cL cC gC gR) t H) (ha : t a = 9) : ∃ (r0 : Nat) (r1 : Nat) (r2 : Nat) (v3 : Int32) (v4 : Int64) (v5 : Int32) (v6 : Int32) (v7 : Int32) (v8 : Int32) (v9 : Int64), va_at D vwCl (a, .inr (4, [.ref r0, .ref r1, .ref r2, .int v3, .long v4, .int v5, .int v6, .int v7, .int v8, .long v9])) H ∧ t r0 = 32 ∧ t r1 = 33 ∧ t r2 = 34 := by
  obtain ⟨e, h1, h2⟩ := hG a (by rw [ha]; decide)
  rw [ha] at h2
  obtain ⟨r0, r1, r2, v3, v4, v5, v6, v7, v8, v9, rfl, w0, w1, w2⟩ := h2
  exact ⟨r0, r1, r2, v3, v4, v5, v6, v7, v8, v9, h1, w0, w1, w2⟩
theorem fF_o10 {D : va_G} {cI cL cC : ClassId} {gC : Int32} {gR : Int32} {t : Nat → Nat} {H : Heap} {a : Nat} (hG : tG D (fF cI cL cC gC gR) t H) (ha : t a = 10) : ∃ (f : Nat → Int32), va_at D vwCl (a, .inl (cI, 400, .inl f)) H := by
  obtain ⟨e, h1, h2⟩ := hG a (by rw [ha]; decide)
  rw [ha] at h2
  obtain ⟨f, rfl⟩ := h2
  exact ⟨f, h1⟩
theorem fF_o11 {D : va_G} {cI cL cC : ClassId} {gC : Int32} {gR : Int32} {t : Nat → Nat} {H : Heap} {a : Nat} (hG : tG D (fF cI cL cC gC gR) t H) (ha : t a = 11) : ∃ (f : Nat → Int32), va_at D vwCl (a, .inl (cI, 6, .inl f)) H := by
  obtain ⟨e, h1, h2⟩ := hG a (by rw [ha]; decide)
  rw [ha] at h2
  obtain ⟨f, rfl⟩ := h2
  exact ⟨f, h1⟩
theorem fF_o12 {D : va_G} {cI cL cC : ClassId} {gC : Int32} {gR : Int32} {t : Nat → Nat} {H : Heap} {a : Nat} (hG : tG D (fF cI cL cC gC gR) t H) (ha : t a = 12) : ∃ (f : Nat → Int32), va_at D vwCl (a, .inl (cI, 240, .inl f)) H := by
  obtain ⟨e, h1, h2⟩ := hG a (by rw [ha]; decide)
  rw [ha] at h2
  obtain ⟨f, rfl⟩ := h2
  exact ⟨f, h1⟩
theorem fF_o13 {D : va_G} {cI cL cC : ClassId} {gC : Int32} {gR : Int32} {t : Nat → Nat} {H : Heap} {a : Nat} (hG : tG D (fF cI cL cC gC gR) t H) (ha : t a = 13) : ∃ (f : Nat → Int32), va_at D vwCl (a, .inl (cI, 16, .inl f)) H := by
  obtain ⟨e, h1, h2⟩ := hG a (by rw [ha]; decide)
  rw [ha] at h2
  obtain ⟨f, rfl⟩ := h2
  exact ⟨f, h1⟩
theorem fF_o14 {D : va_G} {cI cL cC : ClassId} {gC : Int32} {gR : Int32} {t : Nat → Nat} {H : Heap} {a : Nat} (hG : tG D (fF cI cL cC gC gR) t H) (ha : t a = 14) : ∃ (f : Nat → Int32), va_at D vwCl (a, .inl (cI, 4, .inl f)) H := by
  obtain ⟨e, h1, h2⟩ := hG a (by rw [ha]; decide)
  rw [ha] at h2
  obtain ⟨f, rfl⟩ := h2
  exact ⟨f, h1⟩
theorem fF_o15 {D : va_G} {cI cL cC : ClassId} {gC : Int32} {gR : Int32} {t : Nat → Nat} {H : Heap} {a : Nat} (hG : tG D (fF cI cL cC gC gR) t H) (ha : t a = 15) : ∃ (f : Nat → Int32), va_at D vwCl (a, .inl (cI, 96, .inl f)) H := by
  obtain ⟨e, h1, h2⟩ := hG a (by rw [ha]; decide)
  rw [ha] at h2
  obtain ⟨f, rfl⟩ := h2
  exact ⟨f, h1⟩
theorem fF_o16 {D : va_G} {cI cL cC : ClassId} {gC : Int32} {gR : Int32} {t : Nat → Nat} {H : Heap} {a : Nat} (hG : tG D (fF cI cL cC gC gR) t H) (ha : t a = 16) : ∃ (f : Nat → Int32), va_at D vwCl (a, .inl (cI, 96, .inl f)) H := by
  obtain ⟨e, h1, h2⟩ := hG a (by rw [ha]; decide)
  rw [ha] at h2
  obtain ⟨f, rfl⟩ := h2
  exact ⟨f, h1⟩
theorem fF_o17 {D : va_G} {cI cL cC : ClassId} {gC : Int32} {gR : Int32} {t : Nat → Nat} {H : Heap} {a : Nat} (hG : tG D (fF cI cL cC gC gR) t H) (ha : t a = 17) : ∃ (f : Nat → Int64), va_at D vwCl (a, .inl (cL, 16, .inr (.inl f))) H := by
  obtain ⟨e, h1, h2⟩ := hG a (by rw [ha]; decide)
  rw [ha] at h2
  obtain ⟨f, rfl⟩ := h2
  exact ⟨f, h1⟩
theorem fF_o18 {D : va_G} {cI cL cC : ClassId} {gC : Int32} {gR : Int32} {t : Nat → Nat} {H : Heap} {a : Nat} (hG : tG D (fF cI cL cC gC gR) t H) (ha : t a = 18) : ∃ (f : Nat → Int64), va_at D vwCl (a, .inl (cL, 40, .inr (.inl f))) H := by
  obtain ⟨e, h1, h2⟩ := hG a (by rw [ha]; decide)
  rw [ha] at h2
  obtain ⟨f, rfl⟩ := h2
  exact ⟨f, h1⟩
theorem fF_o19 {D : va_G} {cI cL cC : ClassId} {gC : Int32} {gR : Int32} {t : Nat → Nat} {H : Heap} {a : Nat} (hG : tG D (fF cI cL cC gC gR) t H) (ha : t a = 19) : ∃ (f : Nat → Int32), va_at D vwCl (a, .inl (cI, 4, .inl f)) H := by
  obtain ⟨e, h1, h2⟩ := hG a (by rw [ha]; decide)
  rw [ha] at h2
  obtain ⟨f, rfl⟩ := h2
  exact ⟨f, h1⟩
theorem fF_o20 {D : va_G} {cI cL cC : ClassId} {gC : Int32} {gR : Int32} {t : Nat → Nat} {H : Heap} {a : Nat} (hG : tG D (fF cI cL cC gC gR) t H) (ha : t a = 20) : ∃ (f : Nat → Int64), va_at D vwCl (a, .inl (cL, 208, .inr (.inl f))) H := by
  obtain ⟨e, h1, h2⟩ := hG a (by rw [ha]; decide)
  rw [ha] at h2
  obtain ⟨f, rfl⟩ := h2
  exact ⟨f, h1⟩
theorem fF_o21 {D : va_G} {cI cL cC : ClassId} {gC : Int32} {gR : Int32} {t : Nat → Nat} {H : Heap} {a : Nat} (hG : tG D (fF cI cL cC gC gR) t H) (ha : t a = 21) : ∃ (f : Nat → Int32), va_at D vwCl (a, .inl (cI, 4, .inl f)) H ∧ (∀ j : Nat, j < 4 → f j = (-4)) := by
  obtain ⟨e, h1, h2⟩ := hG a (by rw [ha]; decide)
  rw [ha] at h2
  obtain ⟨f, rfl, w0⟩ := h2
  exact ⟨f, h1, w0⟩
theorem fF_o22 {D : va_G} {cI cL cC : ClassId} {gC : Int32} {gR : Int32} {t : Nat → Nat} {H : Heap} {a : Nat} (hG : tG D (fF cI cL cC gC gR) t H) (ha : t a = 22) : ∃ (f : Nat → Int32), va_at D vwCl (a, .inl (cI, 4, .inl f)) H := by
  obtain ⟨e, h1, h2⟩ := hG a (by rw [ha]; decide)
  rw [ha] at h2
  obtain ⟨f, rfl⟩ := h2
  exact ⟨f, h1⟩
theorem fF_o23 {D : va_G} {cI cL cC : ClassId} {gC : Int32} {gR : Int32} {t : Nat → Nat} {H : Heap} {a : Nat} (hG : tG D (fF cI cL cC gC gR) t H) (ha : t a = 23) : ∃ (f : Nat → Int32), va_at D vwCl (a, .inl (cI, 384, .inl f)) H ∧ (∀ j : Nat, j < 384 → f j = (-1)) := by
  obtain ⟨e, h1, h2⟩ := hG a (by rw [ha]; decide)
  rw [ha] at h2
  obtain ⟨f, rfl, w0⟩ := h2
  exact ⟨f, h1, w0⟩
theorem fF_o24 {D : va_G} {cI cL cC : ClassId} {gC : Int32} {gR : Int32} {t : Nat → Nat} {H : Heap} {a : Nat} (hG : tG D (fF cI cL cC gC gR) t H) (ha : t a = 24) : ∃ (f : Nat → Int32), va_at D vwCl (a, .inl (cI, 2, .inl f)) H := by
  obtain ⟨e, h1, h2⟩ := hG a (by rw [ha]; decide)
  rw [ha] at h2
  obtain ⟨f, rfl⟩ := h2
  exact ⟨f, h1⟩
theorem fF_o25 {D : va_G} {cI cL cC : ClassId} {gC : Int32} {gR : Int32} {t : Nat → Nat} {H : Heap} {a : Nat} (hG : tG D (fF cI cL cC gC gR) t H) (ha : t a = 25) : ∃ (f : Nat → Int32), va_at D vwCl (a, .inl (cI, 2, .inl f)) H := by
  obtain ⟨e, h1, h2⟩ := hG a (by rw [ha]; decide)
  rw [ha] at h2
  obtain ⟨f, rfl⟩ := h2
  exact ⟨f, h1⟩
theorem fF_o26 {D : va_G} {cI cL cC : ClassId} {gC : Int32} {gR : Int32} {t : Nat → Nat} {H : Heap} {a : Nat} (hG : tG D (fF cI cL cC gC gR) t H) (ha : t a = 26) : ∃ (f : Nat → Int32), va_at D vwCl (a, .inl (cI, 2, .inl f)) H := by
  obtain ⟨e, h1, h2⟩ := hG a (by rw [ha]; decide)
  rw [ha] at h2
  obtain ⟨f, rfl⟩ := h2
  exact ⟨f, h1⟩
theorem fF_o27 {D : va_G} {cI cL cC : ClassId} {gC : Int32} {gR : Int32} {t : Nat → Nat} {H : Heap} {a : Nat} (hG : tG D (fF cI cL cC gC gR) t H) (ha : t a = 27) : ∃ (f : Nat → Int32), va_at D vwCl (a, .inl (cI, 2, .inl f)) H := by
  obtain ⟨e, h1, h2⟩ := hG a (by rw [ha]; decide)
  rw [ha] at h2
  obtain ⟨f, rfl⟩ := h2
  exact ⟨f, h1⟩
theorem fF_o28 {D : va_G} {cI cL cC : ClassId} {gC : Int32} {gR : Int32} {t : Nat → Nat} {H : Heap} {a : Nat} (hG : tG D (fF cI cL cC gC gR) t H) (ha : t a = 28) : ∃ (f : Nat → Int32), va_at D vwCl (a, .inl (cI, 2, .inl f)) H ∧ (∀ j : Nat, j < 2 → f j = 0) := by
  obtain ⟨e, h1, h2⟩ := hG a (by rw [ha]; decide)
  rw [ha] at h2
  obtain ⟨f, rfl, w0⟩ := h2
  exact ⟨f, h1, w0⟩
theorem fF_o29 {D : va_G} {cI cL cC : ClassId} {gC : Int32} {gR : Int32} {t : Nat → Nat} {H : Heap} {a : Nat} (hG : tG D (fF cI cL cC gC gR) t H) (ha : t a = 29) : ∃ (f : Nat → Int32), va_at D vwCl (a, .inl (cI, 4, .inl f)) H ∧ (∀ j : Nat, j < 4 → f j = 0) := by
  obtain ⟨e, h1, h2⟩ := hG a (by rw [ha]; decide)
  rw [ha] at h2
  obtain ⟨f, rfl, w0⟩ := h2
  exact ⟨f, h1, w0⟩
theorem fF_o30 {D : va_G} {cI cL cC : ClassId} {gC : Int32} {gR : Int32} {t : Nat → Nat} {H : Heap} {a : Nat} (hG : tG D (fF cI cL cC gC gR) t H) (ha : t a = 30) : ∃ (f : Nat → Int32), va_at D vwCl (a, .inl (cI, 4, .inl f)) H ∧ (∀ j : Nat, j < 4 → f j = 0) := by
  obtain ⟨e, h1, h2⟩ := hG a (by rw [ha]; decide)
  rw [ha] at h2
  obtain ⟨f, rfl, w0⟩ := h2
  exact ⟨f, h1, w0⟩
theorem fF_o31 {D : va_G} {cI cL cC : ClassId} {gC : Int32} {gR : Int32} {t : Nat → Nat} {H : Heap} {a : Nat} (hG : tG D (fF cI cL cC gC gR) t H) (ha : t a = 31) : ∃ (f : Nat → Int32), va_at D vwCl (a, .inl (cI, 96, .inl f)) H ∧ (∀ j : Nat, j < 96 → f j = 0) := by
  obtain ⟨e, h1, h2⟩ := hG a (by rw [ha]; decide)
  rw [ha] at h2
  obtain ⟨f, rfl, w0⟩ := h2
  exact ⟨f, h1, w0⟩
theorem fF_o32 {D : va_G} {cI cL cC : ClassId} {gC : Int32} {gR : Int32} {t : Nat → Nat} {H : Heap} {a : Nat} (hG : tG D (fF cI cL cC gC gR) t H) (ha : t a = 32) : ∃ (f : Nat → Option Nat), va_at D vwCl (a, .inl (cC, 4, .inr (.inr (.inr (.inr f))))) H ∧ (∀ j : Nat, j < 4 → ∃ x : Nat, f j = some x ∧ t x = 5) := by
  obtain ⟨e, h1, h2⟩ := hG a (by rw [ha]; decide)
  rw [ha] at h2
  obtain ⟨f, rfl, w0⟩ := h2
  exact ⟨f, h1, w0⟩
theorem fF_o33 {D : va_G} {cI cL cC : ClassId} {gC : Int32} {gR : Int32} {t : Nat → Nat} {H : Heap} {a : Nat} (hG : tG D (fF cI cL cC gC gR) t H) (ha : t a = 33) : ∃ (f : Nat → Int32), va_at D vwCl (a, .inl (cI, 4, .inl f)) H := by
  obtain ⟨e, h1, h2⟩ := hG a (by rw [ha]; decide)
  rw [ha] at h2
  obtain ⟨f, rfl⟩ := h2
  exact ⟨f, h1⟩
theorem fF_o34 {D : va_G} {cI cL cC : ClassId} {gC : Int32} {gR : Int32} {t : Nat → Nat} {H : Heap} {a : Nat} (hG : tG D (fF cI cL cC gC gR) t H) (ha : t a = 34) : ∃ (f : Nat → Int32), va_at D vwCl (a, .inl (cI, 4, .inl f)) H := by
  obtain ⟨e, h1, h2⟩ := hG a (by rw [ha]; decide)
  rw [ha] at h2
  obtain ⟨f, rfl⟩ := h2
  exact ⟨f, h1⟩
theorem fF_o35 {D : va_G} {cI cL cC : ClassId} {gC : Int32} {gR : Int32} {t : Nat → Nat} {H : Heap} {a : Nat} (hG : tG D (fF cI cL cC gC gR) t H) (ha : t a = 35) : ∃ (f : Nat → Int32), va_at D vwCl (a, .inl (cI, 16, .inl f)) H := by
  obtain ⟨e, h1, h2⟩ := hG a (by rw [ha]; decide)
  rw [ha] at h2
  obtain ⟨f, rfl⟩ := h2
  exact ⟨f, h1⟩
theorem fF_o36 {D : va_G} {cI cL cC : ClassId} {gC : Int32} {gR : Int32} {t : Nat → Nat} {H : Heap} {a : Nat} (hG : tG D (fF cI cL cC gC gR) t H) (ha : t a = 36) : ∃ (f : Nat → Option Nat), va_at D vwCl (a, .inl (cC, 3, .inr (.inr (.inr (.inr f))))) H ∧ (∀ j : Nat, j < 3 → ∃ x : Nat, f j = some x ∧ t x = 5) := by
  obtain ⟨e, h1, h2⟩ := hG a (by rw [ha]; decide)
  rw [ha] at h2
  obtain ⟨f, rfl, w0⟩ := h2
  exact ⟨f, h1, w0⟩
theorem fF_o40 {D : va_G} {cI cL cC : ClassId} {gC : Int32} {gR : Int32} {t : Nat → Nat} {H : Heap} {a : Nat} (hG : tG D (fF cI cL cC gC gR) t H) (ha : t a = 40) : ∃ (r1 : Nat) (r4 : Nat) (r5 : Nat) (r6 : Nat) (r7 : Nat) (r9 : Nat) (r10 : Nat) (r11 : Nat) (r12 : Nat) (r14 : Nat) (r15 : Nat) (r16 : Nat) (r18 : Nat) (r19 : Nat) (r20 : Nat) (r21 : Nat) (r22 : Nat) (r23 : Nat) (r24 : Nat) (r25 : Nat) (r26 : Nat) (v27 : Int32) (v28 : Int32) (v29 : Int32) (v30 : Int32) (v31 : Int32) (r32 : Nat) (v34 : Int32) (r35 : Nat), va_at D vwCl (a, .inr (9, [.int gR, .ref r1, .int 0, .int 0, .ref r4, .ref r5, .ref r6, .ref r7, .int 0, .ref r9, .ref r10, .ref r11, .ref r12, .int 0, .ref r14, .ref r15, .ref r16, .int 0, .ref r18, .ref r19, .ref r20, .ref r21, .ref r22, .ref r23, .ref r24, .ref r25, .ref r26, .int v27, .int v28, .int v29, .int v30, .int v31, .ref r32, .int 0, .int v34, .ref r35])) H ∧ t r1 = 41 ∧ t r4 = 42 ∧ t r5 = 43 ∧ t r6 = 44 ∧ t r7 = 45 ∧ t r9 = 46 ∧ t r10 = 47 ∧ t r11 = 48 ∧ t r12 = 49 ∧ t r14 = 50 ∧ t r15 = 51 ∧ t r16 = 52 ∧ t r18 = 53 ∧ t r19 = 54 ∧ t r20 = 55 ∧ t r21 = 56 ∧ t r22 = 57 ∧ t r23 = 58 ∧ t r24 = 59 ∧ t r25 = 60 ∧ t r26 = 61 ∧ t r32 = 62 ∧ t r35 = 63 := by
  obtain ⟨e, h1, h2⟩ := hG a (by rw [ha]; decide)
  rw [ha] at h2
  obtain ⟨r1, r4, r5, r6, r7, r9, r10, r11, r12, r14, r15, r16, r18, r19, r20, r21, r22, r23, r24, r25, r26, v27, v28, v29, v30, v31, r32, v34, r35, rfl, w0, w1, w2, w3, w4, w5, w6, w7, w8, w9, w10, w11, w12, w13, w14, w15, w16, w17, w18, w19, w20, w21, w22⟩ := h2
  exact ⟨r1, r4, r5, r6, r7, r9, r10, r11, r12, r14, r15, r16, r18, r19, r20, r21, r22, r23, r24, r25, r26, v27, v28, v29, v30, v31, r32, v34, r35, h1, w0, w1, w2, w3, w4, w5, w6, w7, w8, w9, w10, w11, w12, w13, w14, w15, w16, w17, w18, w19, w20, w21, w22⟩
theorem fF_o41 {D : va_G} {cI cL cC : ClassId} {gC : Int32} {gR : Int32} {t : Nat → Nat} {H : Heap} {a : Nat} (hG : tG D (fF cI cL cC gC gR) t H) (ha : t a = 41) : ∃ (f : Nat → Int32), va_at D vwCl (a, .inl (cI, 400, .inl f)) H := by
  obtain ⟨e, h1, h2⟩ := hG a (by rw [ha]; decide)
  rw [ha] at h2
  obtain ⟨f, rfl⟩ := h2
  exact ⟨f, h1⟩
theorem fF_o42 {D : va_G} {cI cL cC : ClassId} {gC : Int32} {gR : Int32} {t : Nat → Nat} {H : Heap} {a : Nat} (hG : tG D (fF cI cL cC gC gR) t H) (ha : t a = 42) : ∃ (f : Nat → Int32), va_at D vwCl (a, .inl (cI, 120, .inl f)) H := by
  obtain ⟨e, h1, h2⟩ := hG a (by rw [ha]; decide)
  rw [ha] at h2
  obtain ⟨f, rfl⟩ := h2
  exact ⟨f, h1⟩
theorem fF_o43 {D : va_G} {cI cL cC : ClassId} {gC : Int32} {gR : Int32} {t : Nat → Nat} {H : Heap} {a : Nat} (hG : tG D (fF cI cL cC gC gR) t H) (ha : t a = 43) : ∃ (f : Nat → Int32), va_at D vwCl (a, .inl (cI, 120, .inl f)) H := by
  obtain ⟨e, h1, h2⟩ := hG a (by rw [ha]; decide)
  rw [ha] at h2
  obtain ⟨f, rfl⟩ := h2
  exact ⟨f, h1⟩
theorem fF_o44 {D : va_G} {cI cL cC : ClassId} {gC : Int32} {gR : Int32} {t : Nat → Nat} {H : Heap} {a : Nat} (hG : tG D (fF cI cL cC gC gR) t H) (ha : t a = 44) : ∃ (f : Nat → Int32), va_at D vwCl (a, .inl (cI, 120, .inl f)) H := by
  obtain ⟨e, h1, h2⟩ := hG a (by rw [ha]; decide)
  rw [ha] at h2
  obtain ⟨f, rfl⟩ := h2
  exact ⟨f, h1⟩
theorem fF_o45 {D : va_G} {cI cL cC : ClassId} {gC : Int32} {gR : Int32} {t : Nat → Nat} {H : Heap} {a : Nat} (hG : tG D (fF cI cL cC gC gR) t H) (ha : t a = 45) : ∃ (f : Nat → Int32), va_at D vwCl (a, .inl (cI, 360, .inl f)) H := by
  obtain ⟨e, h1, h2⟩ := hG a (by rw [ha]; decide)
  rw [ha] at h2
  obtain ⟨f, rfl⟩ := h2
  exact ⟨f, h1⟩
theorem fF_o46 {D : va_G} {cI cL cC : ClassId} {gC : Int32} {gR : Int32} {t : Nat → Nat} {H : Heap} {a : Nat} (hG : tG D (fF cI cL cC gC gR) t H) (ha : t a = 46) : ∃ (f : Nat → Int32), va_at D vwCl (a, .inl (cI, 384, .inl f)) H := by
  obtain ⟨e, h1, h2⟩ := hG a (by rw [ha]; decide)
  rw [ha] at h2
  obtain ⟨f, rfl⟩ := h2
  exact ⟨f, h1⟩
theorem fF_o47 {D : va_G} {cI cL cC : ClassId} {gC : Int32} {gR : Int32} {t : Nat → Nat} {H : Heap} {a : Nat} (hG : tG D (fF cI cL cC gC gR) t H) (ha : t a = 47) : ∃ (f : Nat → Int64), va_at D vwCl (a, .inl (cL, 280, .inr (.inl f))) H ∧ (∀ j : Nat, j < 280 → f j = 0) := by
  obtain ⟨e, h1, h2⟩ := hG a (by rw [ha]; decide)
  rw [ha] at h2
  obtain ⟨f, rfl, w0⟩ := h2
  exact ⟨f, h1, w0⟩
theorem fF_o48 {D : va_G} {cI cL cC : ClassId} {gC : Int32} {gR : Int32} {t : Nat → Nat} {H : Heap} {a : Nat} (hG : tG D (fF cI cL cC gC gR) t H) (ha : t a = 48) : ∃ (f : Nat → Int64), va_at D vwCl (a, .inl (cL, 280, .inr (.inl f))) H := by
  obtain ⟨e, h1, h2⟩ := hG a (by rw [ha]; decide)
  rw [ha] at h2
  obtain ⟨f, rfl⟩ := h2
  exact ⟨f, h1⟩
theorem fF_o49 {D : va_G} {cI cL cC : ClassId} {gC : Int32} {gR : Int32} {t : Nat → Nat} {H : Heap} {a : Nat} (hG : tG D (fF cI cL cC gC gR) t H) (ha : t a = 49) : ∃ (f : Nat → Int64), va_at D vwCl (a, .inl (cL, 840, .inr (.inl f))) H := by
  obtain ⟨e, h1, h2⟩ := hG a (by rw [ha]; decide)
  rw [ha] at h2
  obtain ⟨f, rfl⟩ := h2
  exact ⟨f, h1⟩
theorem fF_o50 {D : va_G} {cI cL cC : ClassId} {gC : Int32} {gR : Int32} {t : Nat → Nat} {H : Heap} {a : Nat} (hG : tG D (fF cI cL cC gC gR) t H) (ha : t a = 50) : ∃ (f : Nat → Int32), va_at D vwCl (a, .inl (cI, 4, .inl f)) H ∧ (∀ j : Nat, j < 4 → f j = (-4)) := by
  obtain ⟨e, h1, h2⟩ := hG a (by rw [ha]; decide)
  rw [ha] at h2
  obtain ⟨f, rfl, w0⟩ := h2
  exact ⟨f, h1, w0⟩
theorem fF_o51 {D : va_G} {cI cL cC : ClassId} {gC : Int32} {gR : Int32} {t : Nat → Nat} {H : Heap} {a : Nat} (hG : tG D (fF cI cL cC gC gR) t H) (ha : t a = 51) : ∃ (f : Nat → Int32), va_at D vwCl (a, .inl (cI, 4, .inl f)) H := by
  obtain ⟨e, h1, h2⟩ := hG a (by rw [ha]; decide)
  rw [ha] at h2
  obtain ⟨f, rfl⟩ := h2
  exact ⟨f, h1⟩
theorem fF_o52 {D : va_G} {cI cL cC : ClassId} {gC : Int32} {gR : Int32} {t : Nat → Nat} {H : Heap} {a : Nat} (hG : tG D (fF cI cL cC gC gR) t H) (ha : t a = 52) : ∃ (f : Nat → Int32), va_at D vwCl (a, .inl (cI, 384, .inl f)) H ∧ (∀ j : Nat, j < 384 → f j = (-1)) := by
  obtain ⟨e, h1, h2⟩ := hG a (by rw [ha]; decide)
  rw [ha] at h2
  obtain ⟨f, rfl, w0⟩ := h2
  exact ⟨f, h1, w0⟩
theorem fF_o53 {D : va_G} {cI cL cC : ClassId} {gC : Int32} {gR : Int32} {t : Nat → Nat} {H : Heap} {a : Nat} (hG : tG D (fF cI cL cC gC gR) t H) (ha : t a = 53) : ∃ (f : Nat → Int32), va_at D vwCl (a, .inl (cI, 2, .inl f)) H := by
  obtain ⟨e, h1, h2⟩ := hG a (by rw [ha]; decide)
  rw [ha] at h2
  obtain ⟨f, rfl⟩ := h2
  exact ⟨f, h1⟩
theorem fF_o54 {D : va_G} {cI cL cC : ClassId} {gC : Int32} {gR : Int32} {t : Nat → Nat} {H : Heap} {a : Nat} (hG : tG D (fF cI cL cC gC gR) t H) (ha : t a = 54) : ∃ (f : Nat → Int32), va_at D vwCl (a, .inl (cI, 2, .inl f)) H := by
  obtain ⟨e, h1, h2⟩ := hG a (by rw [ha]; decide)
  rw [ha] at h2
  obtain ⟨f, rfl⟩ := h2
  exact ⟨f, h1⟩
theorem fF_o55 {D : va_G} {cI cL cC : ClassId} {gC : Int32} {gR : Int32} {t : Nat → Nat} {H : Heap} {a : Nat} (hG : tG D (fF cI cL cC gC gR) t H) (ha : t a = 55) : ∃ (f : Nat → Int32), va_at D vwCl (a, .inl (cI, 2, .inl f)) H := by
  obtain ⟨e, h1, h2⟩ := hG a (by rw [ha]; decide)
  rw [ha] at h2
  obtain ⟨f, rfl⟩ := h2
  exact ⟨f, h1⟩
theorem fF_o56 {D : va_G} {cI cL cC : ClassId} {gC : Int32} {gR : Int32} {t : Nat → Nat} {H : Heap} {a : Nat} (hG : tG D (fF cI cL cC gC gR) t H) (ha : t a = 56) : ∃ (f : Nat → Int32), va_at D vwCl (a, .inl (cI, 2, .inl f)) H := by
  obtain ⟨e, h1, h2⟩ := hG a (by rw [ha]; decide)
  rw [ha] at h2
  obtain ⟨f, rfl⟩ := h2
  exact ⟨f, h1⟩
theorem fF_o57 {D : va_G} {cI cL cC : ClassId} {gC : Int32} {gR : Int32} {t : Nat → Nat} {H : Heap} {a : Nat} (hG : tG D (fF cI cL cC gC gR) t H) (ha : t a = 57) : ∃ (f : Nat → Int32), va_at D vwCl (a, .inl (cI, 2, .inl f)) H ∧ (∀ j : Nat, j < 2 → f j = 0) := by
  obtain ⟨e, h1, h2⟩ := hG a (by rw [ha]; decide)
  rw [ha] at h2
  obtain ⟨f, rfl, w0⟩ := h2
  exact ⟨f, h1, w0⟩
theorem fF_o58 {D : va_G} {cI cL cC : ClassId} {gC : Int32} {gR : Int32} {t : Nat → Nat} {H : Heap} {a : Nat} (hG : tG D (fF cI cL cC gC gR) t H) (ha : t a = 58) : ∃ (f : Nat → Int32), va_at D vwCl (a, .inl (cI, 4, .inl f)) H ∧ (∀ j : Nat, j < 4 → f j = 0) := by
  obtain ⟨e, h1, h2⟩ := hG a (by rw [ha]; decide)
  rw [ha] at h2
  obtain ⟨f, rfl, w0⟩ := h2
  exact ⟨f, h1, w0⟩
theorem fF_o59 {D : va_G} {cI cL cC : ClassId} {gC : Int32} {gR : Int32} {t : Nat → Nat} {H : Heap} {a : Nat} (hG : tG D (fF cI cL cC gC gR) t H) (ha : t a = 59) : ∃ (f : Nat → Int32), va_at D vwCl (a, .inl (cI, 96, .inl f)) H ∧ (∀ j : Nat, j < 96 → f j = 0) := by
  obtain ⟨e, h1, h2⟩ := hG a (by rw [ha]; decide)
  rw [ha] at h2
  obtain ⟨f, rfl, w0⟩ := h2
  exact ⟨f, h1, w0⟩
theorem fF_o60 {D : va_G} {cI cL cC : ClassId} {gC : Int32} {gR : Int32} {t : Nat → Nat} {H : Heap} {a : Nat} (hG : tG D (fF cI cL cC gC gR) t H) (ha : t a = 60) : ∃ (f : Nat → Int32), va_at D vwCl (a, .inl (cI, 4, .inl f)) H ∧ (∀ j : Nat, j < 4 → f j = 0) := by
  obtain ⟨e, h1, h2⟩ := hG a (by rw [ha]; decide)
  rw [ha] at h2
  obtain ⟨f, rfl, w0⟩ := h2
  exact ⟨f, h1, w0⟩
theorem fF_o61 {D : va_G} {cI cL cC : ClassId} {gC : Int32} {gR : Int32} {t : Nat → Nat} {H : Heap} {a : Nat} (hG : tG D (fF cI cL cC gC gR) t H) (ha : t a = 61) : ∃ (f : Nat → Int32), va_at D vwCl (a, .inl (cI, 16, .inl f)) H := by
  obtain ⟨e, h1, h2⟩ := hG a (by rw [ha]; decide)
  rw [ha] at h2
  obtain ⟨f, rfl⟩ := h2
  exact ⟨f, h1⟩
theorem fF_o62 {D : va_G} {cI cL cC : ClassId} {gC : Int32} {gR : Int32} {t : Nat → Nat} {H : Heap} {a : Nat} (hG : tG D (fF cI cL cC gC gR) t H) (ha : t a = 62) : ∃ (f : Nat → Int32), va_at D vwCl (a, .inl (cI, 3, .inl f)) H := by
  obtain ⟨e, h1, h2⟩ := hG a (by rw [ha]; decide)
  rw [ha] at h2
  obtain ⟨f, rfl⟩ := h2
  exact ⟨f, h1⟩
theorem fF_o63 {D : va_G} {cI cL cC : ClassId} {gC : Int32} {gR : Int32} {t : Nat → Nat} {H : Heap} {a : Nat} (hG : tG D (fF cI cL cC gC gR) t H) (ha : t a = 63) : ∃ (f : Nat → Int64), va_at D vwCl (a, .inl (cL, 96, .inr (.inl f))) H := by
  obtain ⟨e, h1, h2⟩ := hG a (by rw [ha]; decide)
  rw [ha] at h2
  obtain ⟨f, rfl⟩ := h2
  exact ⟨f, h1⟩
