def gF (cI cL cC : ClassId) (gC : Int32) (gE : Int32) (G : Nat) (gW : Nat → Int32) (gA : Nat → Int32) : tFT := fun t k e => match k with
  | 1 => ∃ (r0 : Nat) (r1 : Nat) (r2 : Nat) (r3 : Nat) (v4 : Int32) (v5 : Int32) (r6 : Nat) (r7 : Nat) (r8 : Nat) (r9 : Nat) (r10 : Nat) (r11 : Nat) (r12 : Nat) (v13 : Int32) (r14 : Nat) (r15 : Nat) (r16 : Nat) (r17 : Nat), e = .inr (8, [.ref r0, .ref r1, .ref r2, .ref r3, .int v4, .int v5, .ref r6, .ref r7, .ref r8, .ref r9, .ref r10, .ref r11, .ref r12, .int v13, .ref r14, .ref r15, .ref r16, .ref r17]) ∧ t r0 = 2 ∧ t r1 = 3 ∧ t r2 = 3 ∧ t r3 = 3 ∧ t r6 = 4 ∧ t r7 = 4 ∧ t r8 = 35 ∧ t r9 = 5 ∧ t r10 = 5 ∧ t r11 = 5 ∧ t r12 = 36 ∧ (0 ≤ v13.toInt ∧ v13.toInt ≤ 3) ∧ t r14 = 6 ∧ t r15 = 7 ∧ t r16 = 8 ∧ t r17 = 9
  | 2 => ∃ (r0 : Nat) (r1 : Nat) (v3 : Int32), e = .inr (6, [.ref r0, .ref r1, .int gC, .int v3]) ∧ t r0 = 10 ∧ t r1 = 11 ∧ (0 ≤ v3.toInt ∧ v3.toInt ≤ 400 ∧ 0 ≤ gC.toInt ∧ gC.toInt ≤ 400)
  | 3 => ∃ (r0 : Nat) (r1 : Nat) (r2 : Nat) (v3 : Int32) (v4 : Int32) (v5 : Int32), e = .inr (3, [.ref r0, .ref r1, .ref r2, .int v3, .int v4, .int v5]) ∧ t r0 = 12 ∧ t r1 = 13 ∧ t r2 = 14 ∧ (0 ≤ v5.toInt ∧ v5.toInt ≤ 4)
  | 4 => ∃ (r0 : Nat) (r1 : Nat), e = .inr (5, [.ref r0, .ref r1]) ∧ t r0 = 15 ∧ t r1 = 16
  | 5 => ∃ (r0 : Nat) (r1 : Nat) (r2 : Nat) (r3 : Nat) (v4 : Int64) (v5 : Int64) (v6 : Int64) (v7 : Int32), e = .inr (0, [.ref r0, .ref r1, .ref r2, .ref r3, .long v4, .long v5, .long v6, .int v7]) ∧ t r0 = 17 ∧ t r1 = 18 ∧ t r2 = 19 ∧ t r3 = 20 ∧ (0 ≤ v7.toInt ∧ v7.toInt ≤ (G : Int))
  | 6 => ∃ (r0 : Nat) (r1 : Nat) (r2 : Nat), e = .inr (1, [.ref r0, .ref r1, .ref r2, .int gE]) ∧ t r0 = 21 ∧ t r1 = 22 ∧ t r2 = 23
  | 7 => ∃ (r0 : Nat) (r1 : Nat) (r2 : Nat) (r3 : Nat) (r4 : Nat), e = .inr (2, [.ref r0, .ref r1, .ref r2, .ref r3, .ref r4]) ∧ t r0 = 24 ∧ t r1 = 25 ∧ t r2 = 26 ∧ t r3 = 27 ∧ t r4 = 28
  | 8 => ∃ (r0 : Nat) (r1 : Nat) (r2 : Nat), e = .inr (7, [.ref r0, .ref r1, .ref r2]) ∧ t r0 = 29 ∧ t r1 = 30 ∧ t r2 = 31
  | 9 => ∃ (r0 : Nat) (r1 : Nat) (r2 : Nat) (v3 : Int32) (v4 : Int64) (v5 : Int32) (v6 : Int32) (v7 : Int32) (v8 : Int32) (v9 : Int64), e = .inr (4, [.ref r0, .ref r1, .ref r2, .int v3, .long v4, .int v5, .int v6, .int v7, .int v8, .long v9]) ∧ t r0 = 32 ∧ t r1 = 33 ∧ t r2 = 34 ∧ (0 ≤ v5.toInt ∧ v5.toInt ≤ 3) ∧ (0 ≤ v6.toInt ∧ v6.toInt ≤ 6) ∧ (0 ≤ v8.toInt ∧ v8.toInt ≤ 15)
  | 10 => ∃ (f : Nat → Int32), e = .inl (cI, 400, .inl f)
  | 11 => ∃ (f : Nat → Int32), e = .inl (cI, 6, .inl f)
  | 12 => ∃ (f : Nat → Int32), e = .inl (cI, 240, .inl f)
  | 13 => ∃ (f : Nat → Int32), e = .inl (cI, 16, .inl f)
  | 14 => ∃ (f : Nat → Int32), e = .inl (cI, 4, .inl f)
  | 15 => ∃ (f : Nat → Int32), e = .inl (cI, 96, .inl f)
  | 16 => ∃ (f : Nat → Int32), e = .inl (cI, 96, .inl f)
  | 17 => ∃ (f : Nat → Int64), e = .inl (cL, 16, .inr (.inl f))
  | 18 => ∃ (f : Nat → Int64), e = .inl (cL, 40, .inr (.inl f))
  | 19 => ∃ (f : Nat → Int32), e = .inl (cI, 4, .inl f)
  | 20 => ∃ (f : Nat → Int64), e = .inl (cL, 208, .inr (.inl f))
  | 21 => ∃ (f : Nat → Int32), e = .inl (cI, 4, .inl f)
  | 22 => ∃ (f : Nat → Int32), e = .inl (cI, 4, .inl f)
  | 23 => ∃ (f : Nat → Int32), e = .inl (cI, 384, .inl f)
  | 24 => ∃ (f : Nat → Int32), e = .inl (cI, 2, .inl f)
  | 25 => ∃ (f : Nat → Int32), e = .inl (cI, 2, .inl f)
  | 26 => ∃ (f : Nat → Int32), e = .inl (cI, 2, .inl f)
  | 27 => ∃ (f : Nat → Int32), e = .inl (cI, 2, .inl f)
  | 28 => ∃ (f : Nat → Int32), e = .inl (cI, 2, .inl f) ∧ gMany f
  | 29 => ∃ (f : Nat → Int32), e = .inl (cI, 4, .inl f) ∧ Eq gW f
  | 30 => ∃ (f : Nat → Int32), e = .inl (cI, 4, .inl f)
  | 31 => ∃ (f : Nat → Int32), e = .inl (cI, 96, .inl f) ∧ Eq gA f
  | 32 => ∃ (f : Nat → Option Nat), e = .inl (cC, 4, .inr (.inr (.inr (.inr f)))) ∧ (∀ j : Nat, j < 4 → ∃ x : Nat, f j = some x ∧ t x = 5)
  | 33 => ∃ (f : Nat → Int32), e = .inl (cI, 4, .inl f)
  | 34 => ∃ (f : Nat → Int32), e = .inl (cI, 4, .inl f)
  | 35 => ∃ (f : Nat → Int32), e = .inl (cI, 16, .inl f)
  | 36 => ∃ (f : Nat → Option Nat), e = .inl (cC, 3, .inr (.inr (.inr (.inr f)))) ∧ (∀ j : Nat, j < 3 → ∃ x : Nat, f j = some x ∧ t x = 5)
  | _ => False
theorem gF_o1 {D : va_G} {cI cL cC : ClassId} {gC : Int32} {gE : Int32} {G : Nat} {gW : Nat → Int32} {gA : Nat → Int32} {t : Nat → Nat} {H : Heap} {a : Nat} (hG : tG D (gF cI cL cC gC gE G gW gA) t H) (ha : t a = 1) : ∃ (r0 : Nat) (r1 : Nat) (r2 : Nat) (r3 : Nat) (v4 : Int32) (v5 : Int32) (r6 : Nat) (r7 : Nat) (r8 : Nat) (r9 : Nat) (r10 : Nat) (r11 : Nat) (r12 : Nat) (v13 : Int32) (r14 : Nat) (r15 : Nat) (r16 : Nat) (r17 : Nat), va_at D vwCl (a, .inr (8, [.ref r0, .ref r1, .ref r2, .ref r3, .int v4, .int v5, .ref r6, .ref r7, .ref r8, .ref r9, .ref r10, .ref r11, .ref r12, .int v13, .ref r14, .ref r15, .ref r16, .ref r17])) H ∧ t r0 = 2 ∧ t r1 = 3 ∧ t r2 = 3 ∧ t r3 = 3 ∧ t r6 = 4 ∧ t r7 = 4 ∧ t r8 = 35 ∧ t r9 = 5 ∧ t r10 = 5 ∧ t r11 = 5 ∧ t r12 = 36 ∧ (0 ≤ v13.toInt ∧ v13.toInt ≤ 3) ∧ t r14 = 6 ∧ t r15 = 7 ∧ t r16 = 8 ∧ t r17 = 9 := by
  obtain ⟨e, h1, h2⟩ := hG a (by rw [ha]; decide)
  rw [ha] at h2
  obtain ⟨r0, r1, r2, r3, v4, v5, r6, r7, r8, r9, r10, r11, r12, v13, r14, r15, r16, r17, rfl, w0, w1, w2, w3, w4, w5, w6, w7, w8, w9, w10, w11, w12, w13, w14, w15⟩ := h2
  exact ⟨r0, r1, r2, r3, v4, v5, r6, r7, r8, r9, r10, r11, r12, v13, r14, r15, r16, r17, h1, w0, w1, w2, w3, w4, w5, w6, w7, w8, w9, w10, w11, w12, w13, w14, w15⟩
theorem gF_o2 {D : va_G} {cI cL cC : ClassId} {gC : Int32} {gE : Int32} {G : Nat} {gW : Nat → Int32} {gA : Nat → Int32} {t : Nat → Nat} {H : Heap} {a : Nat} (hG : tG D (gF cI cL cC gC gE G gW gA) t H) (ha : t a = 2) : ∃ (r0 : Nat) (r1 : Nat) (v3 : Int32), va_at D vwCl (a, .inr (6, [.ref r0, .ref r1, .int gC, .int v3])) H ∧ t r0 = 10 ∧ t r1 = 11 ∧ (0 ≤ v3.toInt ∧ v3.toInt ≤ 400 ∧ 0 ≤ gC.toInt ∧ gC.toInt ≤ 400) := by
  obtain ⟨e, h1, h2⟩ := hG a (by rw [ha]; decide)
  rw [ha] at h2
  obtain ⟨r0, r1, v3, rfl, w0, w1, w2⟩ := h2
  exact ⟨r0, r1, v3, h1, w0, w1, w2⟩
theorem gF_o3 {D : va_G} {cI cL cC : ClassId} {gC : Int32} {gE : Int32} {G : Nat} {gW : Nat → Int32} {gA : Nat → Int32} {t : Nat → Nat} {H : Heap} {a : Nat} (hG : tG D (gF cI cL cC gC gE G gW gA) t H) (ha : t a = 3) : ∃ (r0 : Nat) (r1 : Nat) (r2 : Nat) (v3 : Int32) (v4 : Int32) (v5 : Int32), va_at D vwCl (a, .inr (3, [.ref r0, .ref r1, .ref r2, .int v3, .int v4, .int v5])) H ∧ t r0 = 12 ∧ t r1 = 13 ∧ t r2 = 14 ∧ (0 ≤ v5.toInt ∧ v5.toInt ≤ 4) := by
  obtain ⟨e, h1, h2⟩ := hG a (by rw [ha]; decide)
  rw [ha] at h2
  obtain ⟨r0, r1, r2, v3, v4, v5, rfl, w0, w1, w2, w3⟩ := h2
  exact ⟨r0, r1, r2, v3, v4, v5, h1, w0, w1, w2, w3⟩
theorem gF_o4 {D : va_G} {cI cL cC : ClassId} {gC : Int32} {gE : Int32} {G : Nat} {gW : Nat → Int32} {gA : Nat → Int32} {t : Nat → Nat} {H : Heap} {a : Nat} (hG : tG D (gF cI cL cC gC gE G gW gA) t H) (ha : t a = 4) : ∃ (r0 : Nat) (r1 : Nat), va_at D vwCl (a, .inr (5, [.ref r0, .ref r1])) H ∧ t r0 = 15 ∧ t r1 = 16 := by
  obtain ⟨e, h1, h2⟩ := hG a (by rw [ha]; decide)
  rw [ha] at h2
  obtain ⟨r0, r1, rfl, w0, w1⟩ := h2
  exact ⟨r0, r1, h1, w0, w1⟩
theorem gF_o5 {D : va_G} {cI cL cC : ClassId} {gC : Int32} {gE : Int32} {G : Nat} {gW : Nat → Int32} {gA : Nat → Int32} {t : Nat → Nat} {H : Heap} {a : Nat} (hG : tG D (gF cI cL cC gC gE G gW gA) t H) (ha : t a = 5) : ∃ (r0 : Nat) (r1 : Nat) (r2 : Nat) (r3 : Nat) (v4 : Int64) (v5 : Int64) (v6 : Int64) (v7 : Int32), va_at D vwCl (a, .inr (0, [.ref r0, .ref r1, .ref r2, .ref r3, .long v4, .long v5, .long v6, .int v7])) H ∧ t r0 = 17 ∧ t r1 = 18 ∧ t r2 = 19 ∧ t r3 = 20 ∧ (0 ≤ v7.toInt ∧ v7.toInt ≤ (G : Int)) := by
  obtain ⟨e, h1, h2⟩ := hG a (by rw [ha]; decide)
  rw [ha] at h2
  obtain ⟨r0, r1, r2, r3, v4, v5, v6, v7, rfl, w0, w1, w2, w3, w4⟩ := h2
  exact ⟨r0, r1, r2, r3, v4, v5, v6, v7, h1, w0, w1, w2, w3, w4⟩
theorem gF_o6 {D : va_G} {cI cL cC : ClassId} {gC : Int32} {gE : Int32} {G : Nat} {gW : Nat → Int32} {gA : Nat → Int32} {t : Nat → Nat} {H : Heap} {a : Nat} (hG : tG D (gF cI cL cC gC gE G gW gA) t H) (ha : t a = 6) : ∃ (r0 : Nat) (r1 : Nat) (r2 : Nat), va_at D vwCl (a, .inr (1, [.ref r0, .ref r1, .ref r2, .int gE])) H ∧ t r0 = 21 ∧ t r1 = 22 ∧ t r2 = 23 := by
  obtain ⟨e, h1, h2⟩ := hG a (by rw [ha]; decide)
  rw [ha] at h2
  obtain ⟨r0, r1, r2, rfl, w0, w1, w2⟩ := h2
  exact ⟨r0, r1, r2, h1, w0, w1, w2⟩
theorem gF_o7 {D : va_G} {cI cL cC : ClassId} {gC : Int32} {gE : Int32} {G : Nat} {gW : Nat → Int32} {gA : Nat → Int32} {t : Nat → Nat} {H : Heap} {a : Nat} (hG : tG D (gF cI cL cC gC gE G gW gA) t H) (ha : t a = 7) : ∃ (r0 : Nat) (r1 : Nat) (r2 : Nat) (r3 : Nat) (r4 : Nat), va_at D vwCl (a, .inr (2, [.ref r0, .ref r1, .ref r2, .ref r3, .ref r4])) H ∧ t r0 = 24 ∧ t r1 = 25 ∧ t r2 = 26 ∧ t r3 = 27 ∧ t r4 = 28 := by
  obtain ⟨e, h1, h2⟩ := hG a (by rw [ha]; decide)
  rw [ha] at h2
  obtain ⟨r0, r1, r2, r3, r4, rfl, w0, w1, w2, w3, w4⟩ := h2
  exact ⟨r0, r1, r2, r3, r4, h1, w0, w1, w2, w3, w4⟩
theorem gF_o8 {D : va_G} {cI cL cC : ClassId} {gC : Int32} {gE : Int32} {G : Nat} {gW : Nat → Int32} {gA : Nat → Int32} {t : Nat → Nat} {H : Heap} {a : Nat} (hG : tG D (gF cI cL cC gC gE G gW gA) t H) (ha : t a = 8) : ∃ (r0 : Nat) (r1 : Nat) (r2 : Nat), va_at D vwCl (a, .inr (7, [.ref r0, .ref r1, .ref r2])) H ∧ t r0 = 29 ∧ t r1 = 30 ∧ t r2 = 31 := by
  obtain ⟨e, h1, h2⟩ := hG a (by rw [ha]; decide)
  rw [ha] at h2
  obtain ⟨r0, r1, r2, rfl, w0, w1, w2⟩ := h2
  exact ⟨r0, r1, r2, h1, w0, w1, w2⟩
theorem gF_o9 {D : va_G} {cI cL cC : ClassId} {gC : Int32} {gE : Int32} {G : Nat} {gW : Nat → Int32} {gA : Nat → Int32} {t : Nat → Nat} {H : Heap} {a : Nat} (hG : tG D (gF cI cL cC gC gE G gW gA) t H) (ha : t a = 9) : ∃ (r0 : Nat) (r1 : Nat) (r2 : Nat) (v3 : Int32) (v4 : Int64) (v5 : Int32) (v6 : Int32) (v7 : Int32) (v8 : Int32) (v9 : Int64), va_at D vwCl (a, .inr (4, [.ref r0, .ref r1, .ref r2, .int v3, .long v4, .int v5, .int v6, .int v7, .int v8, .long v9])) H ∧ t r0 = 32 ∧ t r1 = 33 ∧ t r2 = 34 ∧ (0 ≤ v5.toInt ∧ v5.toInt ≤ 3) ∧ (0 ≤ v6.toInt ∧ v6.toInt ≤ 6) ∧ (0 ≤ v8.toInt ∧ v8.toInt ≤ 15) := by
  obtain ⟨e, h1, h2⟩ := hG a (by rw [ha]; decide)
  rw [ha] at h2
  obtain ⟨r0, r1, r2, v3, v4, v5, v6, v7, v8, v9, rfl, w0, w1, w2, w3, w4, w5⟩ := h2
  exact ⟨r0, r1, r2, v3, v4, v5, v6, v7, v8, v9, h1, w0, w1, w2, w3, w4, w5⟩
theorem gF_o10 {D : va_G} {cI cL cC : ClassId} {gC : Int32} {gE : Int32} {G : Nat} {gW : Nat → Int32} {gA : Nat → Int32} {t : Nat → Nat} {H : Heap} {a : Nat} (hG : tG D (gF cI cL cC gC gE G gW gA) t H) (ha : t a = 10) : ∃ (f : Nat → Int32), va_at D vwCl (a, .inl (cI, 400, .inl f)) H := by
  obtain ⟨e, h1, h2⟩ := hG a (by rw [ha]; decide)
  rw [ha] at h2
  obtain ⟨f, rfl⟩ := h2
  exact ⟨f, h1⟩
theorem gF_o11 {D : va_G} {cI cL cC : ClassId} {gC : Int32} {gE : Int32} {G : Nat} {gW : Nat → Int32} {gA : Nat → Int32} {t : Nat → Nat} {H : Heap} {a : Nat} (hG : tG D (gF cI cL cC gC gE G gW gA) t H) (ha : t a = 11) : ∃ (f : Nat → Int32), va_at D vwCl (a, .inl (cI, 6, .inl f)) H := by
  obtain ⟨e, h1, h2⟩ := hG a (by rw [ha]; decide)
  rw [ha] at h2
  obtain ⟨f, rfl⟩ := h2
  exact ⟨f, h1⟩
theorem gF_o12 {D : va_G} {cI cL cC : ClassId} {gC : Int32} {gE : Int32} {G : Nat} {gW : Nat → Int32} {gA : Nat → Int32} {t : Nat → Nat} {H : Heap} {a : Nat} (hG : tG D (gF cI cL cC gC gE G gW gA) t H) (ha : t a = 12) : ∃ (f : Nat → Int32), va_at D vwCl (a, .inl (cI, 240, .inl f)) H := by
  obtain ⟨e, h1, h2⟩ := hG a (by rw [ha]; decide)
  rw [ha] at h2
  obtain ⟨f, rfl⟩ := h2
  exact ⟨f, h1⟩
theorem gF_o13 {D : va_G} {cI cL cC : ClassId} {gC : Int32} {gE : Int32} {G : Nat} {gW : Nat → Int32} {gA : Nat → Int32} {t : Nat → Nat} {H : Heap} {a : Nat} (hG : tG D (gF cI cL cC gC gE G gW gA) t H) (ha : t a = 13) : ∃ (f : Nat → Int32), va_at D vwCl (a, .inl (cI, 16, .inl f)) H := by
  obtain ⟨e, h1, h2⟩ := hG a (by rw [ha]; decide)
  rw [ha] at h2
  obtain ⟨f, rfl⟩ := h2
  exact ⟨f, h1⟩
theorem gF_o14 {D : va_G} {cI cL cC : ClassId} {gC : Int32} {gE : Int32} {G : Nat} {gW : Nat → Int32} {gA : Nat → Int32} {t : Nat → Nat} {H : Heap} {a : Nat} (hG : tG D (gF cI cL cC gC gE G gW gA) t H) (ha : t a = 14) : ∃ (f : Nat → Int32), va_at D vwCl (a, .inl (cI, 4, .inl f)) H := by
  obtain ⟨e, h1, h2⟩ := hG a (by rw [ha]; decide)
  rw [ha] at h2
  obtain ⟨f, rfl⟩ := h2
  exact ⟨f, h1⟩
theorem gF_o15 {D : va_G} {cI cL cC : ClassId} {gC : Int32} {gE : Int32} {G : Nat} {gW : Nat → Int32} {gA : Nat → Int32} {t : Nat → Nat} {H : Heap} {a : Nat} (hG : tG D (gF cI cL cC gC gE G gW gA) t H) (ha : t a = 15) : ∃ (f : Nat → Int32), va_at D vwCl (a, .inl (cI, 96, .inl f)) H := by
  obtain ⟨e, h1, h2⟩ := hG a (by rw [ha]; decide)
  rw [ha] at h2
  obtain ⟨f, rfl⟩ := h2
  exact ⟨f, h1⟩
theorem gF_o16 {D : va_G} {cI cL cC : ClassId} {gC : Int32} {gE : Int32} {G : Nat} {gW : Nat → Int32} {gA : Nat → Int32} {t : Nat → Nat} {H : Heap} {a : Nat} (hG : tG D (gF cI cL cC gC gE G gW gA) t H) (ha : t a = 16) : ∃ (f : Nat → Int32), va_at D vwCl (a, .inl (cI, 96, .inl f)) H := by
  obtain ⟨e, h1, h2⟩ := hG a (by rw [ha]; decide)
  rw [ha] at h2
  obtain ⟨f, rfl⟩ := h2
  exact ⟨f, h1⟩
theorem gF_o17 {D : va_G} {cI cL cC : ClassId} {gC : Int32} {gE : Int32} {G : Nat} {gW : Nat → Int32} {gA : Nat → Int32} {t : Nat → Nat} {H : Heap} {a : Nat} (hG : tG D (gF cI cL cC gC gE G gW gA) t H) (ha : t a = 17) : ∃ (f : Nat → Int64), va_at D vwCl (a, .inl (cL, 16, .inr (.inl f))) H := by
  obtain ⟨e, h1, h2⟩ := hG a (by rw [ha]; decide)
  rw [ha] at h2
  obtain ⟨f, rfl⟩ := h2
  exact ⟨f, h1⟩
theorem gF_o18 {D : va_G} {cI cL cC : ClassId} {gC : Int32} {gE : Int32} {G : Nat} {gW : Nat → Int32} {gA : Nat → Int32} {t : Nat → Nat} {H : Heap} {a : Nat} (hG : tG D (gF cI cL cC gC gE G gW gA) t H) (ha : t a = 18) : ∃ (f : Nat → Int64), va_at D vwCl (a, .inl (cL, 40, .inr (.inl f))) H := by
  obtain ⟨e, h1, h2⟩ := hG a (by rw [ha]; decide)
  rw [ha] at h2
  obtain ⟨f, rfl⟩ := h2
  exact ⟨f, h1⟩
theorem gF_o19 {D : va_G} {cI cL cC : ClassId} {gC : Int32} {gE : Int32} {G : Nat} {gW : Nat → Int32} {gA : Nat → Int32} {t : Nat → Nat} {H : Heap} {a : Nat} (hG : tG D (gF cI cL cC gC gE G gW gA) t H) (ha : t a = 19) : ∃ (f : Nat → Int32), va_at D vwCl (a, .inl (cI, 4, .inl f)) H := by
  obtain ⟨e, h1, h2⟩ := hG a (by rw [ha]; decide)
  rw [ha] at h2
  obtain ⟨f, rfl⟩ := h2
  exact ⟨f, h1⟩
theorem gF_o20 {D : va_G} {cI cL cC : ClassId} {gC : Int32} {gE : Int32} {G : Nat} {gW : Nat → Int32} {gA : Nat → Int32} {t : Nat → Nat} {H : Heap} {a : Nat} (hG : tG D (gF cI cL cC gC gE G gW gA) t H) (ha : t a = 20) : ∃ (f : Nat → Int64), va_at D vwCl (a, .inl (cL, 208, .inr (.inl f))) H := by
  obtain ⟨e, h1, h2⟩ := hG a (by rw [ha]; decide)
  rw [ha] at h2
  obtain ⟨f, rfl⟩ := h2
  exact ⟨f, h1⟩
theorem gF_o21 {D : va_G} {cI cL cC : ClassId} {gC : Int32} {gE : Int32} {G : Nat} {gW : Nat → Int32} {gA : Nat → Int32} {t : Nat → Nat} {H : Heap} {a : Nat} (hG : tG D (gF cI cL cC gC gE G gW gA) t H) (ha : t a = 21) : ∃ (f : Nat → Int32), va_at D vwCl (a, .inl (cI, 4, .inl f)) H := by
  obtain ⟨e, h1, h2⟩ := hG a (by rw [ha]; decide)
  rw [ha] at h2
  obtain ⟨f, rfl⟩ := h2
  exact ⟨f, h1⟩
theorem gF_o22 {D : va_G} {cI cL cC : ClassId} {gC : Int32} {gE : Int32} {G : Nat} {gW : Nat → Int32} {gA : Nat → Int32} {t : Nat → Nat} {H : Heap} {a : Nat} (hG : tG D (gF cI cL cC gC gE G gW gA) t H) (ha : t a = 22) : ∃ (f : Nat → Int32), va_at D vwCl (a, .inl (cI, 4, .inl f)) H := by
  obtain ⟨e, h1, h2⟩ := hG a (by rw [ha]; decide)
  rw [ha] at h2
  obtain ⟨f, rfl⟩ := h2
  exact ⟨f, h1⟩
theorem gF_o23 {D : va_G} {cI cL cC : ClassId} {gC : Int32} {gE : Int32} {G : Nat} {gW : Nat → Int32} {gA : Nat → Int32} {t : Nat → Nat} {H : Heap} {a : Nat} (hG : tG D (gF cI cL cC gC gE G gW gA) t H) (ha : t a = 23) : ∃ (f : Nat → Int32), va_at D vwCl (a, .inl (cI, 384, .inl f)) H := by
  obtain ⟨e, h1, h2⟩ := hG a (by rw [ha]; decide)
  rw [ha] at h2
  obtain ⟨f, rfl⟩ := h2
  exact ⟨f, h1⟩
theorem gF_o24 {D : va_G} {cI cL cC : ClassId} {gC : Int32} {gE : Int32} {G : Nat} {gW : Nat → Int32} {gA : Nat → Int32} {t : Nat → Nat} {H : Heap} {a : Nat} (hG : tG D (gF cI cL cC gC gE G gW gA) t H) (ha : t a = 24) : ∃ (f : Nat → Int32), va_at D vwCl (a, .inl (cI, 2, .inl f)) H := by
  obtain ⟨e, h1, h2⟩ := hG a (by rw [ha]; decide)
  rw [ha] at h2
  obtain ⟨f, rfl⟩ := h2
  exact ⟨f, h1⟩
theorem gF_o25 {D : va_G} {cI cL cC : ClassId} {gC : Int32} {gE : Int32} {G : Nat} {gW : Nat → Int32} {gA : Nat → Int32} {t : Nat → Nat} {H : Heap} {a : Nat} (hG : tG D (gF cI cL cC gC gE G gW gA) t H) (ha : t a = 25) : ∃ (f : Nat → Int32), va_at D vwCl (a, .inl (cI, 2, .inl f)) H := by
  obtain ⟨e, h1, h2⟩ := hG a (by rw [ha]; decide)
  rw [ha] at h2
  obtain ⟨f, rfl⟩ := h2
  exact ⟨f, h1⟩
theorem gF_o26 {D : va_G} {cI cL cC : ClassId} {gC : Int32} {gE : Int32} {G : Nat} {gW : Nat → Int32} {gA : Nat → Int32} {t : Nat → Nat} {H : Heap} {a : Nat} (hG : tG D (gF cI cL cC gC gE G gW gA) t H) (ha : t a = 26) : ∃ (f : Nat → Int32), va_at D vwCl (a, .inl (cI, 2, .inl f)) H := by
  obtain ⟨e, h1, h2⟩ := hG a (by rw [ha]; decide)
  rw [ha] at h2
  obtain ⟨f, rfl⟩ := h2
  exact ⟨f, h1⟩
theorem gF_o27 {D : va_G} {cI cL cC : ClassId} {gC : Int32} {gE : Int32} {G : Nat} {gW : Nat → Int32} {gA : Nat → Int32} {t : Nat → Nat} {H : Heap} {a : Nat} (hG : tG D (gF cI cL cC gC gE G gW gA) t H) (ha : t a = 27) : ∃ (f : Nat → Int32), va_at D vwCl (a, .inl (cI, 2, .inl f)) H := by
  obtain ⟨e, h1, h2⟩ := hG a (by rw [ha]; decide)
  rw [ha] at h2
  obtain ⟨f, rfl⟩ := h2
  exact ⟨f, h1⟩
theorem gF_o28 {D : va_G} {cI cL cC : ClassId} {gC : Int32} {gE : Int32} {G : Nat} {gW : Nat → Int32} {gA : Nat → Int32} {t : Nat → Nat} {H : Heap} {a : Nat} (hG : tG D (gF cI cL cC gC gE G gW gA) t H) (ha : t a = 28) : ∃ (f : Nat → Int32), va_at D vwCl (a, .inl (cI, 2, .inl f)) H ∧ gMany f := by
  obtain ⟨e, h1, h2⟩ := hG a (by rw [ha]; decide)
  rw [ha] at h2
  obtain ⟨f, rfl, w0⟩ := h2
  exact ⟨f, h1, w0⟩
theorem gF_o29 {D : va_G} {cI cL cC : ClassId} {gC : Int32} {gE : Int32} {G : Nat} {gW : Nat → Int32} {gA : Nat → Int32} {t : Nat → Nat} {H : Heap} {a : Nat} (hG : tG D (gF cI cL cC gC gE G gW gA) t H) (ha : t a = 29) : ∃ (f : Nat → Int32), va_at D vwCl (a, .inl (cI, 4, .inl f)) H ∧ Eq gW f := by
  obtain ⟨e, h1, h2⟩ := hG a (by rw [ha]; decide)
  rw [ha] at h2
  obtain ⟨f, rfl, w0⟩ := h2
  exact ⟨f, h1, w0⟩
theorem gF_o30 {D : va_G} {cI cL cC : ClassId} {gC : Int32} {gE : Int32} {G : Nat} {gW : Nat → Int32} {gA : Nat → Int32} {t : Nat → Nat} {H : Heap} {a : Nat} (hG : tG D (gF cI cL cC gC gE G gW gA) t H) (ha : t a = 30) : ∃ (f : Nat → Int32), va_at D vwCl (a, .inl (cI, 4, .inl f)) H := by
  obtain ⟨e, h1, h2⟩ := hG a (by rw [ha]; decide)
  rw [ha] at h2
  obtain ⟨f, rfl⟩ := h2
  exact ⟨f, h1⟩
theorem gF_o31 {D : va_G} {cI cL cC : ClassId} {gC : Int32} {gE : Int32} {G : Nat} {gW : Nat → Int32} {gA : Nat → Int32} {t : Nat → Nat} {H : Heap} {a : Nat} (hG : tG D (gF cI cL cC gC gE G gW gA) t H) (ha : t a = 31) : ∃ (f : Nat → Int32), va_at D vwCl (a, .inl (cI, 96, .inl f)) H ∧ Eq gA f := by
  obtain ⟨e, h1, h2⟩ := hG a (by rw [ha]; decide)
  rw [ha] at h2
  obtain ⟨f, rfl, w0⟩ := h2
  exact ⟨f, h1, w0⟩
theorem gF_o32 {D : va_G} {cI cL cC : ClassId} {gC : Int32} {gE : Int32} {G : Nat} {gW : Nat → Int32} {gA : Nat → Int32} {t : Nat → Nat} {H : Heap} {a : Nat} (hG : tG D (gF cI cL cC gC gE G gW gA) t H) (ha : t a = 32) : ∃ (f : Nat → Option Nat), va_at D vwCl (a, .inl (cC, 4, .inr (.inr (.inr (.inr f))))) H ∧ (∀ j : Nat, j < 4 → ∃ x : Nat, f j = some x ∧ t x = 5) := by
  obtain ⟨e, h1, h2⟩ := hG a (by rw [ha]; decide)
  rw [ha] at h2
  obtain ⟨f, rfl, w0⟩ := h2
  exact ⟨f, h1, w0⟩
theorem gF_o33 {D : va_G} {cI cL cC : ClassId} {gC : Int32} {gE : Int32} {G : Nat} {gW : Nat → Int32} {gA : Nat → Int32} {t : Nat → Nat} {H : Heap} {a : Nat} (hG : tG D (gF cI cL cC gC gE G gW gA) t H) (ha : t a = 33) : ∃ (f : Nat → Int32), va_at D vwCl (a, .inl (cI, 4, .inl f)) H := by
  obtain ⟨e, h1, h2⟩ := hG a (by rw [ha]; decide)
  rw [ha] at h2
  obtain ⟨f, rfl⟩ := h2
  exact ⟨f, h1⟩
theorem gF_o34 {D : va_G} {cI cL cC : ClassId} {gC : Int32} {gE : Int32} {G : Nat} {gW : Nat → Int32} {gA : Nat → Int32} {t : Nat → Nat} {H : Heap} {a : Nat} (hG : tG D (gF cI cL cC gC gE G gW gA) t H) (ha : t a = 34) : ∃ (f : Nat → Int32), va_at D vwCl (a, .inl (cI, 4, .inl f)) H := by
  obtain ⟨e, h1, h2⟩ := hG a (by rw [ha]; decide)
  rw [ha] at h2
  obtain ⟨f, rfl⟩ := h2
  exact ⟨f, h1⟩
theorem gF_o35 {D : va_G} {cI cL cC : ClassId} {gC : Int32} {gE : Int32} {G : Nat} {gW : Nat → Int32} {gA : Nat → Int32} {t : Nat → Nat} {H : Heap} {a : Nat} (hG : tG D (gF cI cL cC gC gE G gW gA) t H) (ha : t a = 35) : ∃ (f : Nat → Int32), va_at D vwCl (a, .inl (cI, 16, .inl f)) H := by
  obtain ⟨e, h1, h2⟩ := hG a (by rw [ha]; decide)
  rw [ha] at h2
  obtain ⟨f, rfl⟩ := h2
  exact ⟨f, h1⟩
theorem gF_o36 {D : va_G} {cI cL cC : ClassId} {gC : Int32} {gE : Int32} {G : Nat} {gW : Nat → Int32} {gA : Nat → Int32} {t : Nat → Nat} {H : Heap} {a : Nat} (hG : tG D (gF cI cL cC gC gE G gW gA) t H) (ha : t a = 36) : ∃ (f : Nat → Option Nat), va_at D vwCl (a, .inl (cC, 3, .inr (.inr (.inr (.inr f))))) H ∧ (∀ j : Nat, j < 3 → ∃ x : Nat, f j = some x ∧ t x = 5) := by
  obtain ⟨e, h1, h2⟩ := hG a (by rw [ha]; decide)
  rw [ha] at h2
  obtain ⟨f, rfl, w0⟩ := h2
  exact ⟨f, h1, w0⟩
theorem gF_mono {cI cL cC : ClassId} {gC : Int32} {gE : Int32} {G : Nat} {gW : Nat → Int32} {gA : Nat → Int32} {G' : Nat} {t : Nat → Nat} (hg : G ≤ G') : ∀ {k : Nat} {e : va_E}, gF cI cL cC gC gE G gW gA t k e → gF cI cL cC gC gE G' gW gA t k e
  | 0, _, h => h
  | 1, _, h => h
  | 2, _, h => h
  | 3, _, h => h
  | 4, _, h => h
  | 5, _, ⟨r0, r1, r2, r3, v4, v5, v6, v7, he, w0, w1, w2, w3, w4, w5⟩ => ⟨r0, r1, r2, r3, v4, v5, v6, v7, he, w0, w1, w2, w3, w4, by omega⟩
  | 6, _, h => h
  | 7, _, h => h
  | 8, _, h => h
  | 9, _, h => h
  | 10, _, h => h
  | 11, _, h => h
  | 12, _, h => h
  | 13, _, h => h
  | 14, _, h => h
  | 15, _, h => h
  | 16, _, h => h
  | 17, _, h => h
  | 18, _, h => h
  | 19, _, h => h
  | 20, _, h => h
  | 21, _, h => h
  | 22, _, h => h
  | 23, _, h => h
  | 24, _, h => h
  | 25, _, h => h
  | 26, _, h => h
  | 27, _, h => h
  | 28, _, h => h
  | 29, _, h => h
  | 30, _, h => h
  | 31, _, h => h
  | 32, _, h => h
  | 33, _, h => h
  | 34, _, h => h
  | 35, _, h => h
  | 36, _, h => h
  | _ + 37, _, h => h
def wrL (l : List Nat) : Nat → Bool := fun k => l.contains k
theorem wrL_sub {l1 l2 : List Nat} (h : l1.all (fun x => l2.contains x) = true) : ∀ k, wrL l1 k = true → wrL l2 k = true := fun k hk => by
  unfold wrL at *
  have h1 : k ∈ l1 := by simpa using hk
  exact List.all_eq_true.mp h k h1
abbrev wrC : Nat → Bool := wrL [5, 17, 18, 19, 20]
abbrev wrMo : Nat → Bool := wrL [3, 12, 13, 14]
abbrev wrT : Nat → Bool := wrL [2, 10, 11]
abbrev wrG : Nat → Bool := wrL [6, 21, 22, 23]
abbrev wrKn : Nat → Bool := wrL [24, 25, 26, 27, 28]
abbrev wrWo : Nat → Bool := wrL [29, 30, 31]
abbrev wrS : Nat → Bool := wrL [9, 33, 34, 5, 17, 18, 19, 20]
abbrev wrTM : Nat → Bool := wrL [2, 10, 11, 3, 12, 13, 14]
abbrev wrMC : Nat → Bool := wrL [3, 12, 13, 14, 5, 17, 18, 19, 20]
abbrev wrAll : Nat → Bool := wrL [1, 2, 3, 4, 5, 6, 7, 8, 9, 10, 11, 12, 13, 14, 15, 16, 17, 18, 19, 20, 21, 22, 23, 24, 25, 26, 27, 28, 29, 30, 31, 32, 33, 34, 35, 36]
def bwr (n : Int32) : Prop := n.toInt < 1 ∨ 8 < n.toInt
def awr (g n : Int32) : Int32 := if n.toInt < 1 ∨ 8 < n.toInt then -1 else if 400 < g.toInt + n.toInt then -3 else g + n
def nwr (g n : Int32) : Int32 := if n.toInt < 1 ∨ 8 < n.toInt then g else if 400 < g.toInt + n.toInt then g else g + n
def aen (g v : Int32) : Int32 := if v.toInt < 0 ∨ 100000 < v.toInt then -1 else g
def nen (g v : Int32) : Int32 := if v.toInt < 0 ∨ 100000 < v.toInt then g else v
def awe (f : Nat → Int32) (w v : Int32) : Int32 := if w.toInt < 0 ∨ 3 < w.toInt ∨ v.toInt < 0 ∨ 100 < v.toInt then -1 else f w.toNatClampNeg
def nwe (f : Nat → Int32) (w v : Int32) : Nat → Int32 := if w.toInt < 0 ∨ 3 < w.toInt ∨ v.toInt < 0 ∨ 100 < v.toInt then f else upd f w.toNatClampNeg v
def arw (f : Nat → Int32) (w i v : Int32) : Int32 := if w.toInt < 0 ∨ 3 < w.toInt ∨ i.toInt < 0 ∨ 23 < i.toInt ∨ v.toInt < 0 ∨ 10000 < v.toInt then -1 else f (w.toInt * 24 + i.toInt).toNat
def nrw (f : Nat → Int32) (w i v : Int32) : Nat → Int32 := if w.toInt < 0 ∨ 3 < w.toInt ∨ i.toInt < 0 ∨ 23 < i.toInt ∨ v.toInt < 0 ∨ 10000 < v.toInt then f else upd f (w.toInt * 24 + i.toInt).toNat v
def aww (w h r p : Int32) : Int32 := if w.toInt < 0 ∨ 1 < w.toInt ∨ h.toInt < 0 ∨ 95 < h.toInt ∨ r.toInt < 0 ∨ 10000 < r.toInt ∨ p.toInt < -30 ∨ 40 < p.toInt then -1 else 0
theorem gF_gC {cI cL cC : ClassId} {gC : Int32} {gE : Int32} {G : Nat} {gW : Nat → Int32} {gA : Nat → Int32} {gC' : Int32} {t : Nat → Nat} : ∀ {k : Nat} {e : va_E}, k ≠ 2 → gF cI cL cC gC gE G gW gA t k e → gF cI cL cC gC' gE G gW gA t k e
  | 0, _, _, h => h
  | 1, _, _, h => h
  | 2, _, hk, _ => absurd rfl hk
  | 3, _, _, h => h
  | 4, _, _, h => h
  | 5, _, _, h => h
  | 6, _, _, h => h
  | 7, _, _, h => h
  | 8, _, _, h => h
  | 9, _, _, h => h
  | 10, _, _, h => h
  | 11, _, _, h => h
  | 12, _, _, h => h
  | 13, _, _, h => h
  | 14, _, _, h => h
  | 15, _, _, h => h
  | 16, _, _, h => h
  | 17, _, _, h => h
  | 18, _, _, h => h
  | 19, _, _, h => h
  | 20, _, _, h => h
  | 21, _, _, h => h
  | 22, _, _, h => h
  | 23, _, _, h => h
  | 24, _, _, h => h
  | 25, _, _, h => h
  | 26, _, _, h => h
  | 27, _, _, h => h
  | 28, _, _, h => h
  | 29, _, _, h => h
  | 30, _, _, h => h
  | 31, _, _, h => h
  | 32, _, _, h => h
  | 33, _, _, h => h
  | 34, _, _, h => h
  | 35, _, _, h => h
  | 36, _, _, h => h
  | _ + 37, _, _, h => h
theorem gF_gE {cI cL cC : ClassId} {gC : Int32} {gE : Int32} {G : Nat} {gW : Nat → Int32} {gA : Nat → Int32} {gE' : Int32} {t : Nat → Nat} : ∀ {k : Nat} {e : va_E}, k ≠ 6 → gF cI cL cC gC gE G gW gA t k e → gF cI cL cC gC gE' G gW gA t k e
  | 0, _, _, h => h
  | 1, _, _, h => h
  | 2, _, _, h => h
  | 3, _, _, h => h
  | 4, _, _, h => h
  | 5, _, _, h => h
  | 6, _, hk, _ => absurd rfl hk
  | 7, _, _, h => h
  | 8, _, _, h => h
  | 9, _, _, h => h
  | 10, _, _, h => h
  | 11, _, _, h => h
  | 12, _, _, h => h
  | 13, _, _, h => h
  | 14, _, _, h => h
  | 15, _, _, h => h
  | 16, _, _, h => h
  | 17, _, _, h => h
  | 18, _, _, h => h
  | 19, _, _, h => h
  | 20, _, _, h => h
  | 21, _, _, h => h
  | 22, _, _, h => h
  | 23, _, _, h => h
  | 24, _, _, h => h
  | 25, _, _, h => h
  | 26, _, _, h => h
  | 27, _, _, h => h
  | 28, _, _, h => h
  | 29, _, _, h => h
  | 30, _, _, h => h
  | 31, _, _, h => h
  | 32, _, _, h => h
  | 33, _, _, h => h
  | 34, _, _, h => h
  | 35, _, _, h => h
  | 36, _, _, h => h
  | _ + 37, _, _, h => h
theorem gF_gW {cI cL cC : ClassId} {gC : Int32} {gE : Int32} {G : Nat} {gW : Nat → Int32} {gA : Nat → Int32} {gW' : Nat → Int32} {t : Nat → Nat} : ∀ {k : Nat} {e : va_E}, k ≠ 29 → gF cI cL cC gC gE G gW gA t k e → gF cI cL cC gC gE G gW' gA t k e
  | 0, _, _, h => h
  | 1, _, _, h => h
  | 2, _, _, h => h
  | 3, _, _, h => h
  | 4, _, _, h => h
  | 5, _, _, h => h
  | 6, _, _, h => h
  | 7, _, _, h => h
  | 8, _, _, h => h
  | 9, _, _, h => h
  | 10, _, _, h => h
  | 11, _, _, h => h
  | 12, _, _, h => h
  | 13, _, _, h => h
  | 14, _, _, h => h
  | 15, _, _, h => h
  | 16, _, _, h => h
  | 17, _, _, h => h
  | 18, _, _, h => h
  | 19, _, _, h => h
  | 20, _, _, h => h
  | 21, _, _, h => h
  | 22, _, _, h => h
  | 23, _, _, h => h
  | 24, _, _, h => h
  | 25, _, _, h => h
  | 26, _, _, h => h
  | 27, _, _, h => h
  | 28, _, _, h => h
  | 29, _, hk, _ => absurd rfl hk
  | 30, _, _, h => h
  | 31, _, _, h => h
  | 32, _, _, h => h
  | 33, _, _, h => h
  | 34, _, _, h => h
  | 35, _, _, h => h
  | 36, _, _, h => h
  | _ + 37, _, _, h => h
theorem gF_gA {cI cL cC : ClassId} {gC : Int32} {gE : Int32} {G : Nat} {gW : Nat → Int32} {gA : Nat → Int32} {gA' : Nat → Int32} {t : Nat → Nat} : ∀ {k : Nat} {e : va_E}, k ≠ 31 → gF cI cL cC gC gE G gW gA t k e → gF cI cL cC gC gE G gW gA' t k e
  | 0, _, _, h => h
  | 1, _, _, h => h
  | 2, _, _, h => h
  | 3, _, _, h => h
  | 4, _, _, h => h
  | 5, _, _, h => h
  | 6, _, _, h => h
  | 7, _, _, h => h
  | 8, _, _, h => h
  | 9, _, _, h => h
  | 10, _, _, h => h
  | 11, _, _, h => h
  | 12, _, _, h => h
  | 13, _, _, h => h
  | 14, _, _, h => h
  | 15, _, _, h => h
  | 16, _, _, h => h
  | 17, _, _, h => h
  | 18, _, _, h => h
  | 19, _, _, h => h
  | 20, _, _, h => h
  | 21, _, _, h => h
  | 22, _, _, h => h
  | 23, _, _, h => h
  | 24, _, _, h => h
  | 25, _, _, h => h
  | 26, _, _, h => h
  | 27, _, _, h => h
  | 28, _, _, h => h
  | 29, _, _, h => h
  | 30, _, _, h => h
  | 31, _, hk, _ => absurd rfl hk
  | 32, _, _, h => h
  | 33, _, _, h => h
  | 34, _, _, h => h
  | 35, _, _, h => h
  | 36, _, _, h => h
  | _ + 37, _, _, h => h
