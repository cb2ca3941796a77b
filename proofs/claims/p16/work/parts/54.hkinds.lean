def hF (cI cL cC : ClassId) (gC : Int32) (gP : Int32) (gT : Nat → Int32) (gR : Nat → Int32) (mm : Int32) (ms : Int32) (mg : Int32) (mL : Nat → Int32) (mQ : Nat → Int32) (mZ : Nat → Int32) (dm : Int32) (ds : Int32) (dg : Int32) (dL : Nat → Int32) (dQ : Nat → Int32) (dZ : Nat → Int32) (om : Int32) (os : Int32) (og : Int32) (oL : Nat → Int32) (oQ : Nat → Int32) (oZ : Nat → Int32) (gB : Int32) (gO : Int32) (xk : Int32) (gE : Int32) (gV : Nat → Int32) (gU : Nat → Int32) (gN : Nat → Int32) (G : Nat) (gW : Nat → Int32) (gA : Nat → Int32) : tFT := fun t k e => match k with
  | 1 => ∃ (r0 : Nat) (r1 : Nat) (r2 : Nat) (r3 : Nat) (r6 : Nat) (r7 : Nat) (r8 : Nat) (r9 : Nat) (r10 : Nat) (r11 : Nat) (r12 : Nat) (r14 : Nat) (r15 : Nat) (r16 : Nat) (r17 : Nat), e = .inr (8, [.ref r0, .ref r1, .ref r2, .ref r3, .int gB, .int gO, .ref r6, .ref r7, .ref r8, .ref r9, .ref r10, .ref r11, .ref r12, .int xk, .ref r14, .ref r15, .ref r16, .ref r17]) ∧ t r0 = 2 ∧ t r1 = 3 ∧ t r2 = 37 ∧ t r3 = 41 ∧ t r6 = 4 ∧ t r7 = 4 ∧ t r8 = 35 ∧ t r9 = 5 ∧ t r10 = 5 ∧ t r11 = 5 ∧ t r12 = 36 ∧ t r14 = 6 ∧ t r15 = 7 ∧ t r16 = 8 ∧ t r17 = 9
  | 2 => ∃ (r0 : Nat) (r1 : Nat), e = .inr (6, [.ref r0, .ref r1, .int gC, .int gP]) ∧ t r0 = 10 ∧ t r1 = 11
  | 3 => ∃ (r0 : Nat) (r1 : Nat) (r2 : Nat), e = .inr (3, [.ref r0, .ref r1, .ref r2, .int mm, .int ms, .int mg]) ∧ t r0 = 12 ∧ t r1 = 13 ∧ t r2 = 14
  | 4 => ∃ (r0 : Nat) (r1 : Nat), e = .inr (5, [.ref r0, .ref r1]) ∧ t r0 = 15 ∧ t r1 = 16
  | 5 => ∃ (r0 : Nat) (r1 : Nat) (r2 : Nat) (r3 : Nat) (v4 : Int64) (v5 : Int64) (v6 : Int64) (v7 : Int32), e = .inr (0, [.ref r0, .ref r1, .ref r2, .ref r3, .long v4, .long v5, .long v6, .int v7]) ∧ t r0 = 17 ∧ t r1 = 18 ∧ t r2 = 19 ∧ t r3 = 20 ∧ (0 ≤ v7.toInt ∧ v7.toInt ≤ (G : Int))
  | 6 => ∃ (r0 : Nat) (r1 : Nat) (r2 : Nat), e = .inr (1, [.ref r0, .ref r1, .ref r2, .int gE]) ∧ t r0 = 21 ∧ t r1 = 22 ∧ t r2 = 23
  | 7 => ∃ (r0 : Nat) (r1 : Nat) (r2 : Nat) (r3 : Nat) (r4 : Nat), e = .inr (2, [.ref r0, .ref r1, .ref r2, .ref r3, .ref r4]) ∧ t r0 = 24 ∧ t r1 = 25 ∧ t r2 = 26 ∧ t r3 = 27 ∧ t r4 = 28
  | 8 => ∃ (r0 : Nat) (r1 : Nat) (r2 : Nat), e = .inr (7, [.ref r0, .ref r1, .ref r2]) ∧ t r0 = 29 ∧ t r1 = 30 ∧ t r2 = 31
  | 9 => ∃ (r0 : Nat) (r1 : Nat) (r2 : Nat) (v3 : Int32) (v4 : Int64) (v5 : Int32) (v6 : Int32) (v7 : Int32) (v8 : Int32) (v9 : Int64), e = .inr (4, [.ref r0, .ref r1, .ref r2, .int v3, .long v4, .int v5, .int v6, .int v7, .int v8, .long v9]) ∧ t r0 = 32 ∧ t r1 = 33 ∧ t r2 = 34 ∧ (0 ≤ v5.toInt ∧ v5.toInt ≤ 3) ∧ (0 ≤ v6.toInt ∧ v6.toInt ≤ 6) ∧ (0 ≤ v8.toInt ∧ v8.toInt ≤ 15)
  | 10 => e = .inl (cI, 400, .inl gT)
  | 11 => e = .inl (cI, 6, .inl gR)
  | 12 => e = .inl (cI, 240, .inl mL)
  | 13 => e = .inl (cI, 16, .inl mQ)
  | 14 => e = .inl (cI, 4, .inl mZ)
  | 15 => ∃ (f : Nat → Int32), e = .inl (cI, 96, .inl f)
  | 16 => ∃ (f : Nat → Int32), e = .inl (cI, 96, .inl f)
  | 17 => ∃ (f : Nat → Int64), e = .inl (cL, 16, .inr (.inl f))
  | 18 => ∃ (f : Nat → Int64), e = .inl (cL, 40, .inr (.inl f))
  | 19 => ∃ (f : Nat → Int32), e = .inl (cI, 4, .inl f)
  | 20 => ∃ (f : Nat → Int64), e = .inl (cL, 208, .inr (.inl f))
  | 21 => e = .inl (cI, 4, .inl gV)
  | 22 => e = .inl (cI, 4, .inl gU)
  | 23 => e = .inl (cI, 384, .inl gN)
  | 24 => ∃ (f : Nat → Int32), e = .inl (cI, 2, .inl f)
  | 25 => ∃ (f : Nat → Int32), e = .inl (cI, 2, .inl f)
  | 26 => ∃ (f : Nat → Int32), e = .inl (cI, 2, .inl f)
  | 27 => ∃ (f : Nat → Int32), e = .inl (cI, 2, .inl f)
  | 28 => ∃ (f : Nat → Int32), e = .inl (cI, 2, .inl f) ∧ gMany f
  | 29 => e = .inl (cI, 4, .inl gW)
  | 30 => ∃ (f : Nat → Int32), e = .inl (cI, 4, .inl f)
  | 31 => e = .inl (cI, 96, .inl gA)
  | 32 => ∃ (f : Nat → Option Nat), e = .inl (cC, 4, .inr (.inr (.inr (.inr f)))) ∧ (∀ j : Nat, j < 4 → ∃ x : Nat, f j = some x ∧ t x = 5)
  | 33 => ∃ (f : Nat → Int32), e = .inl (cI, 4, .inl f)
  | 34 => ∃ (f : Nat → Int32), e = .inl (cI, 4, .inl f)
  | 35 => ∃ (f : Nat → Int32), e = .inl (cI, 16, .inl f)
  | 36 => ∃ (f : Nat → Option Nat), e = .inl (cC, 3, .inr (.inr (.inr (.inr f)))) ∧ (∀ j : Nat, j < 3 → ∃ x : Nat, f j = some x ∧ t x = 5)
  | 37 => ∃ (r0 : Nat) (r1 : Nat) (r2 : Nat), e = .inr (3, [.ref r0, .ref r1, .ref r2, .int dm, .int ds, .int dg]) ∧ t r0 = 38 ∧ t r1 = 39 ∧ t r2 = 40
  | 38 => e = .inl (cI, 240, .inl dL)
  | 39 => e = .inl (cI, 16, .inl dQ)
  | 40 => e = .inl (cI, 4, .inl dZ)
  | 41 => ∃ (r0 : Nat) (r1 : Nat) (r2 : Nat), e = .inr (3, [.ref r0, .ref r1, .ref r2, .int om, .int os, .int og]) ∧ t r0 = 42 ∧ t r1 = 43 ∧ t r2 = 44
  | 42 => e = .inl (cI, 240, .inl oL)
  | 43 => e = .inl (cI, 16, .inl oQ)
  | 44 => e = .inl (cI, 4, .inl oZ)
  | _ => False
theorem hF_o1 {D : va_G} {cI cL cC : ClassId} {gC : Int32} {gP : Int32} {gT : Nat → Int32} {gR : Nat → Int32} {mm : Int32} {ms : Int32} {mg : Int32} {mL : Nat → Int32} {mQ : Nat → Int32} {mZ : Nat → Int32} {dm : Int32} {ds : Int32} {dg : Int32} {dL : Nat → Int32} {dQ : Nat → Int32} {dZ : Nat → Int32} {om : Int32} {os : Int32} {og : Int32} {oL : Nat → Int32} {oQ : Nat → Int32} {oZ : Nat → Int32} {gB : Int32} {gO : Int32} {xk : Int32} {gE : Int32} {gV : Nat → Int32} {gU : Nat → Int32} {gN : Nat → Int32} {G : Nat} {gW : Nat → Int32} {gA : Nat → Int32} {t : Nat → Nat} {H : Heap} {a : Nat} (hG : tG D (hF cI cL cC gC gP gT gR mm ms mg mL mQ mZ dm ds dg dL dQ dZ om os og oL oQ oZ gB gO xk gE gV gU gN G gW gA) t H) (ha : t a = 1) : ∃ (r0 : Nat) (r1 : Nat) (r2 : Nat) (r3 : Nat) (r6 : Nat) (r7 : Nat) (r8 : Nat) (r9 : Nat) (r10 : Nat) (r11 : Nat) (r12 : Nat) (r14 : Nat) (r15 : Nat) (r16 : Nat) (r17 : Nat), va_at D vwCl (a, .inr (8, [.ref r0, .ref r1, .ref r2, .ref r3, .int gB, .int gO, .ref r6, .ref r7, .ref r8, .ref r9, .ref r10, .ref r11, .ref r12, .int xk, .ref r14, .ref r15, .ref r16, .ref r17])) H ∧ t r0 = 2 ∧ t r1 = 3 ∧ t r2 = 37 ∧ t r3 = 41 ∧ t r6 = 4 ∧ t r7 = 4 ∧ t r8 = 35 ∧ t r9 = 5 ∧ t r10 = 5 ∧ t r11 = 5 ∧ t r12 = 36 ∧ t r14 = 6 ∧ t r15 = 7 ∧ t r16 = 8 ∧ t r17 = 9 := by
  obtain ⟨e, h1, h2⟩ := hG a (by rw [ha]; decide)
  rw [ha] at h2
  obtain ⟨r0, r1, r2, r3, r6, r7, r8, r9, r10, r11, r12, r14, r15, r16, r17, rfl, w0, w1, w2, w3, w4, w5, w6, w7, w8, w9, w10, w11, w12, w13, w14⟩ := h2
  exact ⟨r0, r1, r2, r3, r6, r7, r8, r9, r10, r11, r12, r14, r15, r16, r17, h1, w0, w1, w2, w3, w4, w5, w6, w7, w8, w9, w10, w11, w12, w13, w14⟩
theorem hF_o2 {D : va_G} {cI cL cC : ClassId} {gC : Int32} {gP : Int32} {gT : Nat → Int32} {gR : Nat → Int32} {mm : Int32} {ms : Int32} {mg : Int32} {mL : Nat → Int32} {mQ : Nat → Int32} {mZ : Nat → Int32} {dm : Int32} {ds : Int32} {dg : Int32} {dL : Nat → Int32} {dQ : Nat → Int32} {dZ : Nat → Int32} {om : Int32} {os : Int32} {og : Int32} {oL : Nat → Int32} {oQ : Nat → Int32} {oZ : Nat → Int32} {gB : Int32} {gO : Int32} {xk : Int32} {gE : Int32} {gV : Nat → Int32} {gU : Nat → Int32} {gN : Nat → Int32} {G : Nat} {gW : Nat → Int32} {gA : Nat → Int32} {t : Nat → Nat} {H : Heap} {a : Nat} (hG : tG D (hF cI cL cC gC gP gT gR mm ms mg mL mQ mZ dm ds dg dL dQ dZ om os og oL oQ oZ gB gO xk gE gV gU gN G gW gA) t H) (ha : t a = 2) : ∃ (r0 : Nat) (r1 : Nat), va_at D vwCl (a, .inr (6, [.ref r0, .ref r1, .int gC, .int gP])) H ∧ t r0 = 10 ∧ t r1 = 11 := by
  obtain ⟨e, h1, h2⟩ := hG a (by rw [ha]; decide)
  rw [ha] at h2
  obtain ⟨r0, r1, rfl, w0, w1⟩ := h2
  exact ⟨r0, r1, h1, w0, w1⟩
theorem hF_o3 {D : va_G} {cI cL cC : ClassId} {gC : Int32} {gP : Int32} {gT : Nat → Int32} {gR : Nat → Int32} {mm : Int32} {ms : Int32} {mg : Int32} {mL : Nat → Int32} {mQ : Nat → Int32} {mZ : Nat → Int32} {dm : Int32} {ds : Int32} {dg : Int32} {dL : Nat → Int32} {dQ : Nat → Int32} {dZ : Nat → Int32} {om : Int32} {os : Int32} {og : Int32} {oL : Nat → Int32} {oQ : Nat → Int32} {oZ : Nat → Int32} {gB : Int32} {gO : Int32} {xk : Int32} {gE : Int32} {gV : Nat → Int32} {gU : Nat → Int32} {gN : Nat → Int32} {G : Nat} {gW : Nat → Int32} {gA : Nat → Int32} {t : Nat → Nat} {H : Heap} {a : Nat} (hG : tG D (hF cI cL cC gC gP gT gR mm ms mg mL mQ mZ dm ds dg dL dQ dZ om os og oL oQ oZ gB gO xk gE gV gU gN G gW gA) t H) (ha : t a = 3) : ∃ (r0 : Nat) (r1 : Nat) (r2 : Nat), va_at D vwCl (a, .inr (3, [.ref r0, .ref r1, .ref r2, .int mm, .int ms, .int mg])) H ∧ t r0 = 12 ∧ t r1 = 13 ∧ t r2 = 14 := by
  obtain ⟨e, h1, h2⟩ := hG a (by rw [ha]; decide)
  rw [ha] at h2
  obtain ⟨r0, r1, r2, rfl, w0, w1, w2⟩ := h2
  exact ⟨r0, r1, r2, h1, w0, w1, w2⟩
theorem hF_o4 {D : va_G} {cI cL cC : ClassId} {gC : Int32} {gP : Int32} {gT : Nat → Int32} {gR : Nat → Int32} {mm : Int32} {ms : Int32} {mg : Int32} {mL : Nat → Int32} {mQ : Nat → Int32} {mZ : Nat → Int32} {dm : Int32} {ds : Int32} {dg : Int32} {dL : Nat → Int32} {dQ : Nat → Int32} {dZ : Nat → Int32} {om : Int32} {os : Int32} {og : Int32} {oL : Nat → Int32} {oQ : Nat → Int32} {oZ : Nat → Int32} {gB : Int32} {gO : Int32} {xk : Int32} {gE : Int32} {gV : Nat → Int32} {gU : Nat → Int32} {gN : Nat → Int32} {G : Nat} {gW : Nat → Int32} {gA : Nat → Int32} {t : Nat → Nat} {H : Heap} {a : Nat} (hG : tG D (hF cI cL cC gC gP gT gR mm ms mg mL mQ mZ dm ds dg dL dQ dZ om os og oL oQ oZ gB gO xk gE gV gU gN G gW gA) t H) (ha : t a = 4) : ∃ (r0 : Nat) (r1 : Nat), va_at D vwCl (a, .inr (5, [.ref r0, .ref r1])) H ∧ t r0 = 15 ∧ t r1 = 16 := by
  obtain ⟨e, h1, h2⟩ := hG a (by rw [ha]; decide)
  rw [ha] at h2
  obtain ⟨r0, r1, rfl, w0, w1⟩ := h2
  exact ⟨r0, r1, h1, w0, w1⟩
theorem hF_o5 {D : va_G} {cI cL cC : ClassId} {gC : Int32} {gP : Int32} {gT : Nat → Int32} {gR : Nat → Int32} {mm : Int32} {ms : Int32} {mg : Int32} {mL : Nat → Int32} {mQ : Nat → Int32} {mZ : Nat → Int32} {dm : Int32} {ds : Int32} {dg : Int32} {dL : Nat → Int32} {dQ : Nat → Int32} {dZ : Nat → Int32} {om : Int32} {os : Int32} {og : Int32} {oL : Nat → Int32} {oQ : Nat → Int32} {oZ : Nat → Int32} {gB : Int32} {gO : Int32} {xk : Int32} {gE : Int32} {gV : Nat → Int32} {gU : Nat → Int32} {gN : Nat → Int32} {G : Nat} {gW : Nat → Int32} {gA : Nat → Int32} {t : Nat → Nat} {H : Heap} {a : Nat} (hG : tG D (hF cI cL cC gC gP gT gR mm ms mg mL mQ mZ dm ds dg dL dQ dZ om os og oL oQ oZ gB gO xk gE gV gU gN G gW gA) t H) (ha : t a = 5) : ∃ (r0 : Nat) (r1 : Nat) (r2 : Nat) (r3 : Nat) (v4 : Int64) (v5 : Int64) (v6 : Int64) (v7 : Int32), va_at D vwCl (a, .inr (0, [.ref r0, .ref r1, .ref r2, .ref r3, .long v4, .long v5, .long v6, .int v7])) H ∧ t r0 = 17 ∧ t r1 = 18 ∧ t r2 = 19 ∧ t r3 = 20 ∧ (0 ≤ v7.toInt ∧ v7.toInt ≤ (G : Int)) := by
  obtain ⟨e, h1, h2⟩ := hG a (by rw [ha]; decide)
  rw [ha] at h2
  obtain ⟨r0, r1, r2, r3, v4, v5, v6, v7, rfl, w0, w1, w2, w3, w4⟩ := h2
  exact ⟨r0, r1, r2, r3, v4, v5, v6, v7, h1, w0, w1, w2, w3, w4⟩
theorem hF_o6 {D : va_G} {cI cL cC : ClassId} {gC : Int32} {gP : Int32} {gT : Nat → Int32} {gR : Nat → Int32} {mm : Int32} {ms : Int32} {mg : Int32} {mL : Nat → Int32} {mQ : Nat → Int32} {mZ : Nat → Int32} {dm : Int32} {ds : Int32} {dg : Int32} {dL : Nat → Int32} {dQ : Nat → Int32} {dZ : Nat → Int32} {om : Int32} {os : Int32} {og : Int32} {oL : Nat → Int32} {oQ : Nat → Int32} {oZ : Nat → Int32} {gB : Int32} {gO : Int32} {xk : Int32} {gE : Int32} {gV : Nat → Int32} {gU : Nat → Int32} {gN : Nat → Int32} {G : Nat} {gW : Nat → Int32} {gA : Nat → Int32} {t : Nat → Nat} {H : Heap} {a : Nat} (hG : tG D (hF cI cL cC gC gP gT gR mm ms mg mL mQ mZ dm ds dg dL dQ dZ om os og oL oQ oZ gB gO xk gE gV gU gN G gW gA) t H) (ha : t a = 6) : ∃ (r0 : Nat) (r1 : Nat) (r2 : Nat), va_at D vwCl (a, .inr (1, [.ref r0, .ref r1, .ref r2, .int gE])) H ∧ t r0 = 21 ∧ t r1 = 22 ∧ t r2 = 23 := by
  obtain ⟨e, h1, h2⟩ := hG a (by rw [ha]; decide)
  rw [ha] at h2
  obtain ⟨r0, r1, r2, rfl, w0, w1, w2⟩ := h2
  exact ⟨r0, r1, r2, h1, w0, w1, w2⟩
theorem hF_o7 {D : va_G} {cI cL cC : ClassId} {gC : Int32} {gP : Int32} {gT : Nat → Int32} {gR : Nat → Int32} {mm : Int32} {ms : Int32} {mg : Int32} {mL : Nat → Int32} {mQ : Nat → Int32} {mZ : Nat → Int32} {dm : Int32} {ds : Int32} {dg : Int32} {dL : Nat → Int32} {dQ : Nat → Int32} {dZ : Nat → Int32} {om : Int32} {os : Int32} {og : Int32} {oL : Nat → Int32} {oQ : Nat → Int32} {oZ : Nat → Int32} {gB : Int32} {gO : Int32} {xk : Int32} {gE : Int32} {gV : Nat → Int32} {gU : Nat → Int32} {gN : Nat → Int32} {G : Nat} {gW : Nat → Int32} {gA : Nat → Int32} {t : Nat → Nat} {H : Heap} {a : Nat} (hG : tG D (hF cI cL cC gC gP gT gR mm ms mg mL mQ mZ dm ds dg dL dQ dZ om os og oL oQ oZ gB gO xk gE gV gU gN G gW gA) t H) (ha : t a = 7) : ∃ (r0 : Nat) (r1 : Nat) (r2 : Nat) (r3 : Nat) (r4 : Nat), va_at D vwCl (a, .inr (2, [.ref r0, .ref r1, .ref r2, .ref r3, .ref r4])) H ∧ t r0 = 24 ∧ t r1 = 25 ∧ t r2 = 26 ∧ t r3 = 27 ∧ t r4 = 28 := by
  obtain ⟨e, h1, h2⟩ := hG a (by rw [ha]; decide)
  rw [ha] at h2
  obtain ⟨r0, r1, r2, r3, r4, rfl, w0, w1, w2, w3, w4⟩ := h2
  exact ⟨r0, r1, r2, r3, r4, h1, w0, w1, w2, w3, w4⟩
theorem hF_o8 {D : va_G} {cI cL cC : ClassId} {gC : Int32} {gP : Int32} {gT : Nat → Int32} {gR : Nat → Int32} {mm : Int32} {ms : Int32} {mg : Int32} {mL : Nat → Int32} {mQ : Nat → Int32} {mZ : Nat → Int32} {dm : Int32} {ds : Int32} {dg : Int32} {dL : Nat → Int32} {dQ : Nat → Int32} {dZ : Nat → Int32} {om : Int32} {os : Int32} {og : Int32} {oL : Nat → Int32} {oQ : Nat → Int32} {oZ : Nat → Int32} {gB : Int32} {gO : Int32} {xk : Int32} {gE : Int32} {gV : Nat → Int32} {gU : Nat → Int32} {gN : Nat → Int32} {G : Nat} {gW : Nat → Int32} {gA : Nat → Int32} {t : Nat → Nat} {H : Heap} {a : Nat} (hG : tG D (hF cI cL cC gC gP gT gR mm ms mg mL mQ mZ dm ds dg dL dQ dZ om os og oL oQ oZ gB gO xk gE gV gU gN G gW gA) t H) (ha : t a = 8) : ∃ (r0 : Nat) (r1 : Nat) (r2 : Nat), va_at D vwCl (a, .inr (7, [.ref r0, .ref r1, .ref r2])) H ∧ t r0 = 29 ∧ t r1 = 30 ∧ t r2 = 31 := by
  obtain ⟨e, h1, h2⟩ := hG a (by rw [ha]; decide)
  rw [ha] at h2
  obtain ⟨r0, r1, r2, rfl, w0, w1, w2⟩ := h2
  exact ⟨r0, r1, r2, h1, w0, w1, w2⟩
theorem hF_o9 {D : va_G} {cI cL cC : ClassId} {gC : Int32} {gP : Int32} {gT : Nat → Int32} {gR : Nat → Int32} {mm : Int32} {ms : Int32} {mg : Int32} {mL : Nat → Int32} {mQ : Nat → Int32} {mZ : Nat → Int32} {dm : Int32} {ds : Int32} {dg : Int32} {dL : Nat → Int32} {dQ : Nat → Int32} {dZ : Nat → Int32} {om : Int32} {os : Int32} {og : Int32} {oL : Nat → Int32} {oQ : Nat → Int32} {oZ : Nat → Int32} {gB : Int32} {gO : Int32} {xk : Int32} {gE : Int32} {gV : Nat → Int32} {gU : Nat → Int32} {gN : Nat → Int32} {G : Nat} {gW : Nat → Int32} {gA : Nat → Int32} {t : Nat → Nat} {H : Heap} {a : Nat} (hG : tG D (hF cI cL cC gC gP gT gR mm ms mg mL mQ mZ dm ds dg dL dQ dZ om os og oL oQ oZ gB gO xk gE gV gU gN G gW gA) t H) (ha : t a = 9) : ∃ (r0 : Nat) (r1 : Nat) (r2 : Nat) (v3 : Int32) (v4 : Int64) (v5 : Int32) (v6 : Int32) (v7 : Int32) (v8 : Int32) (v9 : Int64), va_at D vwCl (a, .inr (4, [.ref r0, .ref r1, .ref r2, .int v3, .long v4, .int v5, .int v6, .int v7, .int v8, .long v9])) H ∧ t r0 = 32 ∧ t r1 = 33 ∧ t r2 = 34 ∧ (0 ≤ v5.toInt ∧ v5.toInt ≤ 3) ∧ (0 ≤ v6.toInt ∧ v6.toInt ≤ 6) ∧ (0 ≤ v8.toInt ∧ v8.toInt ≤ 15) := by
  obtain ⟨e, h1, h2⟩ := hG a (by rw [ha]; decide)
  rw [ha] at h2
  obtain ⟨r0, r1, r2, v3, v4, v5, v6, v7, v8, v9, rfl, w0, w1, w2, w3, w4, w5⟩ := h2
  exact ⟨r0, r1, r2, v3, v4, v5, v6, v7, v8, v9, h1, w0, w1, w2, w3, w4, w5⟩
theorem hF_o10 {D : va_G} {cI cL cC : ClassId} {gC : Int32} {gP : Int32} {gT : Nat → Int32} {gR : Nat → Int32} {mm : Int32} {ms : Int32} {mg : Int32} {mL : Nat → Int32} {mQ : Nat → Int32} {mZ : Nat → Int32} {dm : Int32} {ds : Int32} {dg : Int32} {dL : Nat → Int32} {dQ : Nat → Int32} {dZ : Nat → Int32} {om : Int32} {os : Int32} {og : Int32} {oL : Nat → Int32} {oQ : Nat → Int32} {oZ : Nat → Int32} {gB : Int32} {gO : Int32} {xk : Int32} {gE : Int32} {gV : Nat → Int32} {gU : Nat → Int32} {gN : Nat → Int32} {G : Nat} {gW : Nat → Int32} {gA : Nat → Int32} {t : Nat → Nat} {H : Heap} {a : Nat} (hG : tG D (hF cI cL cC gC gP gT gR mm ms mg mL mQ mZ dm ds dg dL dQ dZ om os og oL oQ oZ gB gO xk gE gV gU gN G gW gA) t H) (ha : t a = 10) : va_at D vwCl (a, .inl (cI, 400, .inl gT)) H := by
  obtain ⟨e, h1, h2⟩ := hG a (by rw [ha]; decide)
  rw [ha] at h2
  have h3 : e = .inl (cI, 400, .inl gT) := h2
  rw [h3] at h1
  exact h1
theorem hF_o11 {D : va_G} {cI cL cC : ClassId} {gC : Int32} {gP : Int32} {gT : Nat → Int32} {gR : Nat → Int32} {mm : Int32} {ms : Int32} {mg : Int32} {mL : Nat → Int32} {mQ : Nat → Int32} {mZ : Nat → Int32} {dm : Int32} {ds : Int32} {dg : Int32} {dL : Nat → Int32} {dQ : Nat → Int32} {dZ : Nat → Int32} {om : Int32} {os : Int32} {og : Int32} {oL : Nat → Int32} {oQ : Nat → Int32} {oZ : Nat → Int32} {gB : Int32} {gO : Int32} {xk : Int32} {gE : Int32} {gV : Nat → Int32} {gU : Nat → Int32} {gN : Nat → Int32} {G : Nat} {gW : Nat → Int32} {gA : Nat → Int32} {t : Nat → Nat} {H : Heap} {a : Nat} (hG : tG D (hF cI cL cC gC gP gT gR mm ms mg mL mQ mZ dm ds dg dL dQ dZ om os og oL oQ oZ gB gO xk gE gV gU gN G gW gA) t H) (ha : t a = 11) : va_at D vwCl (a, .inl (cI, 6, .inl gR)) H := by
  obtain ⟨e, h1, h2⟩ := hG a (by rw [ha]; decide)
  rw [ha] at h2
  have h3 : e = .inl (cI, 6, .inl gR) := h2
  rw [h3] at h1
  exact h1
theorem hF_o12 {D : va_G} {cI cL cC : ClassId} {gC : Int32} {gP : Int32} {gT : Nat → Int32} {gR : Nat → Int32} {mm : Int32} {ms : Int32} {mg : Int32} {mL : Nat → Int32} {mQ : Nat → Int32} {mZ : Nat → Int32} {dm : Int32} {ds : Int32} {dg : Int32} {dL : Nat → Int32} {dQ : Nat → Int32} {dZ : Nat → Int32} {om : Int32} {os : Int32} {og : Int32} {oL : Nat → Int32} {oQ : Nat → Int32} {oZ : Nat → Int32} {gB : Int32} {gO : Int32} {xk : Int32} {gE : Int32} {gV : Nat → Int32} {gU : Nat → Int32} {gN : Nat → Int32} {G : Nat} {gW : Nat → Int32} {gA : Nat → Int32} {t : Nat → Nat} {H : Heap} {a : Nat} (hG : tG D (hF cI cL cC gC gP gT gR mm ms mg mL mQ mZ dm ds dg dL dQ dZ om os og oL oQ oZ gB gO xk gE gV gU gN G gW gA) t H) (ha : t a = 12) : va_at D vwCl (a, .inl (cI, 240, .inl mL)) H := by
  obtain ⟨e, h1, h2⟩ := hG a (by rw [ha]; decide)
  rw [ha] at h2
  have h3 : e = .inl (cI, 240, .inl mL) := h2
  rw [h3] at h1
  exact h1
theorem hF_o13 {D : va_G} {cI cL cC : ClassId} {gC : Int32} {gP : Int32} {gT : Nat → Int32} {gR : Nat → Int32} {mm : Int32} {ms : Int32} {mg : Int32} {mL : Nat → Int32} {mQ : Nat → Int32} {mZ : Nat → Int32} {dm : Int32} {ds : Int32} {dg : Int32} {dL : Nat → Int32} {dQ : Nat → Int32} {dZ : Nat → Int32} {om : Int32} {os : Int32} {og : Int32} {oL : Nat → Int32} {oQ : Nat → Int32} {oZ : Nat → Int32} {gB : Int32} {gO : Int32} {xk : Int32} {gE : Int32} {gV : Nat → Int32} {gU : Nat → Int32} {gN : Nat → Int32} {G : Nat} {gW : Nat → Int32} {gA : Nat → Int32} {t : Nat → Nat} {H : Heap} {a : Nat} (hG : tG D (hF cI cL cC gC gP gT gR mm ms mg mL mQ mZ dm ds dg dL dQ dZ om os og oL oQ oZ gB gO xk gE gV gU gN G gW gA) t H) (ha : t a = 13) : va_at D vwCl (a, .inl (cI, 16, .inl mQ)) H := by
  obtain ⟨e, h1, h2⟩ := hG a (by rw [ha]; decide)
  rw [ha] at h2
  have h3 : e = .inl (cI, 16, .inl mQ) := h2
  rw [h3] at h1
  exact h1
theorem hF_o14 {D : va_G} {cI cL cC : ClassId} {gC : Int32} {gP : Int32} {gT : Nat → Int32} {gR : Nat → Int32} {mm : Int32} {ms : Int32} {mg : Int32} {mL : Nat → Int32} {mQ : Nat → Int32} {mZ : Nat → Int32} {dm : Int32} {ds : Int32} {dg : Int32} {dL : Nat → Int32} {dQ : Nat → Int32} {dZ : Nat → Int32} {om : Int32} {os : Int32} {og : Int32} {oL : Nat → Int32} {oQ : Nat → Int32} {oZ : Nat → Int32} {gB : Int32} {gO : Int32} {xk : Int32} {gE : Int32} {gV : Nat → Int32} {gU : Nat → Int32} {gN : Nat → Int32} {G : Nat} {gW : Nat → Int32} {gA : Nat → Int32} {t : Nat → Nat} {H : Heap} {a : Nat} (hG : tG D (hF cI cL cC gC gP gT gR mm ms mg mL mQ mZ dm ds dg dL dQ dZ om os og oL oQ oZ gB gO xk gE gV gU gN G gW gA) t H) (ha : t a = 14) : va_at D vwCl (a, .inl (cI, 4, .inl mZ)) H := by
  obtain ⟨e, h1, h2⟩ := hG a (by rw [ha]; decide)
  rw [ha] at h2
  have h3 : e = .inl (cI, 4, .inl mZ) := h2
  rw [h3] at h1
  exact h1
theorem hF_o15 {D : va_G} {cI cL cC : ClassId} {gC : Int32} {gP : Int32} {gT : Nat → Int32} {gR : Nat → Int32} {mm : Int32} {ms : Int32} {mg : Int32} {mL : Nat → Int32} {mQ : Nat → Int32} {mZ : Nat → Int32} {dm : Int32} {ds : Int32} {dg : Int32} {dL : Nat → Int32} {dQ : Nat → Int32} {dZ : Nat → Int32} {om : Int32} {os : Int32} {og : Int32} {oL : Nat → Int32} {oQ : Nat → Int32} {oZ : Nat → Int32} {gB : Int32} {gO : Int32} {xk : Int32} {gE : Int32} {gV : Nat → Int32} {gU : Nat → Int32} {gN : Nat → Int32} {G : Nat} {gW : Nat → Int32} {gA : Nat → Int32} {t : Nat → Nat} {H : Heap} {a : Nat} (hG : tG D (hF cI cL cC gC gP gT gR mm ms mg mL mQ mZ dm ds dg dL dQ dZ om os og oL oQ oZ gB gO xk gE gV gU gN G gW gA) t H) (ha : t a = 15) : ∃ (f : Nat → Int32), va_at D vwCl (a, .inl (cI, 96, .inl f)) H := by
  obtain ⟨e, h1, h2⟩ := hG a (by rw [ha]; decide)
  rw [ha] at h2
  obtain ⟨f, rfl⟩ := h2
  exact ⟨f, h1⟩
theorem hF_o16 {D : va_G} {cI cL cC : ClassId} {gC : Int32} {gP : Int32} {gT : Nat → Int32} {gR : Nat → Int32} {mm : Int32} {ms : Int32} {mg : Int32} {mL : Nat → Int32} {mQ : Nat → Int32} {mZ : Nat → Int32} {dm : Int32} {ds : Int32} {dg : Int32} {dL : Nat → Int32} {dQ : Nat → Int32} {dZ : Nat → Int32} {om : Int32} {os : Int32} {og : Int32} {oL : Nat → Int32} {oQ : Nat → Int32} {oZ : Nat → Int32} {gB : Int32} {gO : Int32} {xk : Int32} {gE : Int32} {gV : Nat → Int32} {gU : Nat → Int32} {gN : Nat → Int32} {G : Nat} {gW : Nat → Int32} {gA : Nat → Int32} {t : Nat → Nat} {H : Heap} {a : Nat} (hG : tG D (hF cI cL cC gC gP gT gR mm ms mg mL mQ mZ dm ds dg dL dQ dZ om os og oL oQ oZ gB gO xk gE gV gU gN G gW gA) t H) (ha : t a = 16) : ∃ (f : Nat → Int32), va_at D vwCl (a, .inl (cI, 96, .inl f)) H := by
  obtain ⟨e, h1, h2⟩ := hG a (by rw [ha]; decide)
  rw [ha] at h2
  obtain ⟨f, rfl⟩ := h2
  exact ⟨f, h1⟩
theorem hF_o17 {D : va_G} {cI cL cC : ClassId} {gC : Int32} {gP : Int32} {gT : Nat → Int32} {gR : Nat → Int32} {mm : Int32} {ms : Int32} {mg : Int32} {mL : Nat → Int32} {mQ : Nat → Int32} {mZ : Nat → Int32} {dm : Int32} {ds : Int32} {dg : Int32} {dL : Nat → Int32} {dQ : Nat → Int32} {dZ : Nat → Int32} {om : Int32} {os : Int32} {og : Int32} {oL : Nat → Int32} {oQ : Nat → Int32} {oZ : Nat → Int32} {gB : Int32} {gO : Int32} {xk : Int32} {gE : Int32} {gV : Nat → Int32} {gU : Nat → Int32} {gN : Nat → Int32} {G : Nat} {gW : Nat → Int32} {gA : Nat → Int32} {t : Nat → Nat} {H : Heap} {a : Nat} (hG : tG D (hF cI cL cC gC gP gT gR mm ms mg mL mQ mZ dm ds dg dL dQ dZ om os og oL oQ oZ gB gO xk gE gV gU gN G gW gA) t H) (ha : t a = 17) : ∃ (f : Nat → Int64), va_at D vwCl (a, .inl (cL, 16, .inr (.inl f))) H := by
  obtain ⟨e, h1, h2⟩ := hG a (by rw [ha]; decide)
  rw [ha] at h2
  obtain ⟨f, rfl⟩ := h2
  exact ⟨f, h1⟩
theorem hF_o18 {D : va_G} {cI cL cC : ClassId} {gC : Int32} {gP : Int32} {gT : Nat → Int32} {gR : Nat → Int32} {mm : Int32} {ms : Int32} {mg : Int32} {mL : Nat → Int32} {mQ : Nat → Int32} {mZ : Nat → Int32} {dm : Int32} {ds : Int32} {dg : Int32} {dL : Nat → Int32} {dQ : Nat → Int32} {dZ : Nat → Int32} {om : Int32} {os : Int32} {og : Int32} {oL : Nat → Int32} {oQ : Nat → Int32} {oZ : Nat → Int32} {gB : Int32} {gO : Int32} {xk : Int32} {gE : Int32} {gV : Nat → Int32} {gU : Nat → Int32} {gN : Nat → Int32} {G : Nat} {gW : Nat → Int32} {gA : Nat → Int32} {t : Nat → Nat} {H : Heap} {a : Nat} (hG : tG D (hF cI cL cC gC gP gT gR mm ms mg mL mQ mZ dm ds dg dL dQ dZ om os og oL oQ oZ gB gO xk gE gV gU gN G gW gA) t H) (ha : t a = 18) : ∃ (f : Nat → Int64), va_at D vwCl (a, .inl (cL, 40, .inr (.inl f))) H := by
  obtain ⟨e, h1, h2⟩ := hG a (by rw [ha]; decide)
  rw [ha] at h2
  obtain ⟨f, rfl⟩ := h2
  exact ⟨f, h1⟩
theorem hF_o19 {D : va_G} {cI cL cC : ClassId} {gC : Int32} {gP : Int32} {gT : Nat → Int32} {gR : Nat → Int32} {mm : Int32} {ms : Int32} {mg : Int32} {mL : Nat → Int32} {mQ : Nat → Int32} {mZ : Nat → Int32} {dm : Int32} {ds : Int32} {dg : Int32} {dL : Nat → Int32} {dQ : Nat → Int32} {dZ : Nat → Int32} {om : Int32} {os : Int32} {og : Int32} {oL : Nat → Int32} {oQ : Nat → Int32} {oZ : Nat → Int32} {gB : Int32} {gO : Int32} {xk : Int32} {gE : Int32} {gV : Nat → Int32} {gU : Nat → Int32} {gN : Nat → Int32} {G : Nat} {gW : Nat → Int32} {gA : Nat → Int32} {t : Nat → Nat} {H : Heap} {a : Nat} (hG : tG D (hF cI cL cC gC gP gT gR mm ms mg mL mQ mZ dm ds dg dL dQ dZ om os og oL oQ oZ gB gO xk gE gV gU gN G gW gA) t H) (ha : t a = 19) : ∃ (f : Nat → Int32), va_at D vwCl (a, .inl (cI, 4, .inl f)) H := by
  obtain ⟨e, h1, h2⟩ := hG a (by rw [ha]; decide)
  rw [ha] at h2
  obtain ⟨f, rfl⟩ := h2
  exact ⟨f, h1⟩
theorem hF_o20 {D : va_G} {cI cL cC : ClassId} {gC : Int32} {gP : Int32} {gT : Nat → Int32} {gR : Nat → Int32} {mm : Int32} {ms : Int32} {mg : Int32} {mL : Nat → Int32} {mQ : Nat → Int32} {mZ : Nat → Int32} {dm : Int32} {ds : Int32} {dg : Int32} {dL : Nat → Int32} {dQ : Nat → Int32} {dZ : Nat → Int32} {om : Int32} {os : Int32} {og : Int32} {oL : Nat → Int32} {oQ : Nat → Int32} {oZ : Nat → Int32} {gB : Int32} {gO : Int32} {xk : Int32} {gE : Int32} {gV : Nat → Int32} {gU : Nat → Int32} {gN : Nat → Int32} {G : Nat} {gW : Nat → Int32} {gA : Nat → Int32} {t : Nat → Nat} {H : Heap} {a : Nat} (hG : tG D (hF cI cL cC gC gP gT gR mm ms mg mL mQ mZ dm ds dg dL dQ dZ om os og oL oQ oZ gB gO xk gE gV gU gN G gW gA) t H) (ha : t a = 20) : ∃ (f : Nat → Int64), va_at D vwCl (a, .inl (cL, 208, .inr (.inl f))) H := by
  obtain ⟨e, h1, h2⟩ := hG a (by rw [ha]; decide)
  rw [ha] at h2
  obtain ⟨f, rfl⟩ := h2
  exact ⟨f, h1⟩
theorem hF_o21 {D : va_G} {cI cL cC : ClassId} {gC : Int32} {gP : Int32} {gT : Nat → Int32} {gR : Nat → Int32} {mm : Int32} {ms : Int32} {mg : Int32} {mL : Nat → Int32} {mQ : Nat → Int32} {mZ : Nat → Int32} {dm : Int32} {ds : Int32} {dg : Int32} {dL : Nat → Int32} {dQ : Nat → Int32} {dZ : Nat → Int32} {om : Int32} {os : Int32} {og : Int32} {oL : Nat → Int32} {oQ : Nat → Int32} {oZ : Nat → Int32} {gB : Int32} {gO : Int32} {xk : Int32} {gE : Int32} {gV : Nat → Int32} {gU : Nat → Int32} {gN : Nat → Int32} {G : Nat} {gW : Nat → Int32} {gA : Nat → Int32} {t : Nat → Nat} {H : Heap} {a : Nat} (hG : tG D (hF cI cL cC gC gP gT gR mm ms mg mL mQ mZ dm ds dg dL dQ dZ om os og oL oQ oZ gB gO xk gE gV gU gN G gW gA) t H) (ha : t a = 21) : va_at D vwCl (a, .inl (cI, 4, .inl gV)) H := by
  obtain ⟨e, h1, h2⟩ := hG a (by rw [ha]; decide)
  rw [ha] at h2
  have h3 : e = .inl (cI, 4, .inl gV) := h2
  rw [h3] at h1
  exact h1
theorem hF_o22 {D : va_G} {cI cL cC : ClassId} {gC : Int32} {gP : Int32} {gT : Nat → Int32} {gR : Nat → Int32} {mm : Int32} {ms : Int32} {mg : Int32} {mL : Nat → Int32} {mQ : Nat → Int32} {mZ : Nat → Int32} {dm : Int32} {ds : Int32} {dg : Int32} {dL : Nat → Int32} {dQ : Nat → Int32} {dZ : Nat → Int32} {om : Int32} {os : Int32} {og : Int32} {oL : Nat → Int32} {oQ : Nat → Int32} {oZ : Nat → Int32} {gB : Int32} {gO : Int32} {xk : Int32} {gE : Int32} {gV : Nat → Int32} {gU : Nat → Int32} {gN : Nat → Int32} {G : Nat} {gW : Nat → Int32} {gA : Nat → Int32} {t : Nat → Nat} {H : Heap} {a : Nat} (hG : tG D (hF cI cL cC gC gP gT gR mm ms mg mL mQ mZ dm ds dg dL dQ dZ om os og oL oQ oZ gB gO xk gE gV gU gN G gW gA) t H) (ha : t a = 22) : va_at D vwCl (a, .inl (cI, 4, .inl gU)) H := by
  obtain ⟨e, h1, h2⟩ := hG a (by rw [ha]; decide)
  rw [ha] at h2
  have h3 : e = .inl (cI, 4, .inl gU) := h2
  rw [h3] at h1
  exact h1
theorem hF_o23 {D : va_G} {cI cL cC : ClassId} {gC : Int32} {gP : Int32} {gT : Nat → Int32} {gR : Nat → Int32} {mm : Int32} {ms : Int32} {mg : Int32} {mL : Nat → Int32} {mQ : Nat → Int32} {mZ : Nat → Int32} {dm : Int32} {ds : Int32} {dg : Int32} {dL : Nat → Int32} {dQ : Nat → Int32} {dZ : Nat → Int32} {om : Int32} {os : Int32} {og : Int32} {oL : Nat → Int32} {oQ : Nat → Int32} {oZ : Nat → Int32} {gB : Int32} {gO : Int32} {xk : Int32} {gE : Int32} {gV : Nat → Int32} {gU : Nat → Int32} {gN : Nat → Int32} {G : Nat} {gW : Nat → Int32} {gA : Nat → Int32} {t : Nat → Nat} {H : Heap} {a : Nat} (hG : tG D (hF cI cL cC gC gP gT gR mm ms mg mL mQ mZ dm ds dg dL dQ dZ om os og oL oQ oZ gB gO xk gE gV gU gN G gW gA) t H) (ha : t a = 23) : va_at D vwCl (a, .inl (cI, 384, .inl gN)) H := by
  obtain ⟨e, h1, h2⟩ := hG a (by rw [ha]; decide)
  rw [ha] at h2
  have h3 : e = .inl (cI, 384, .inl gN) := h2
  rw [h3] at h1
  exact h1
theorem hF_o24 {D : va_G} {cI cL cC : ClassId} {gC : Int32} {gP : Int32} {gT : Nat → Int32} {gR : Nat → Int32} {mm : Int32} {ms : Int32} {mg : Int32} {mL : Nat → Int32} {mQ : Nat → Int32} {mZ : Nat → Int32} {dm : Int32} {ds : Int32} {dg : Int32} {dL : Nat → Int32} {dQ : Nat → Int32} {dZ : Nat → Int32} {om : Int32} {os : Int32} {og : Int32} {oL : Nat → Int32} {oQ : Nat → Int32} {oZ : Nat → Int32} {gB : Int32} {gO : Int32} {xk : Int32} {gE : Int32} {gV : Nat → Int32} {gU : Nat → Int32} {gN : Nat → Int32} {G : Nat} {gW : Nat → Int32} {gA : Nat → Int32} {t : Nat → Nat} {H : Heap} {a : Nat} (hG : tG D (hF cI cL cC gC gP gT gR mm ms mg mL mQ mZ dm ds dg dL dQ dZ om os og oL oQ oZ gB gO xk gE gV gU gN G gW gA) t H) (ha : t a = 24) : ∃ (f : Nat → Int32), va_at D vwCl (a, .inl (cI, 2, .inl f)) H := by
  obtain ⟨e, h1, h2⟩ := hG a (by rw [ha]; decide)
  rw [ha] at h2
  obtain ⟨f, rfl⟩ := h2
  exact ⟨f, h1⟩
theorem hF_o25 {D : va_G} {cI cL cC : ClassId} {gC : Int32} {gP : Int32} {gT : Nat → Int32} {gR : Nat → Int32} {mm : Int32} {ms : Int32} {mg : Int32} {mL : Nat → Int32} {mQ : Nat → Int32} {mZ : Nat → Int32} {dm : Int32} {ds : Int32} {dg : Int32} {dL : Nat → Int32} {dQ : Nat → Int32} {dZ : Nat → Int32} {om : Int32} {os : Int32} {og : Int32} {oL : Nat → Int32} {oQ : Nat → Int32} {oZ : Nat → Int32} {gB : Int32} {gO : Int32} {xk : Int32} {gE : Int32} {gV : Nat → Int32} {gU : Nat → Int32} {gN : Nat → Int32} {G : Nat} {gW : Nat → Int32} {gA : Nat → Int32} {t : Nat → Nat} {H : Heap} {a : Nat} (hG : tG D (hF cI cL cC gC gP gT gR mm ms mg mL mQ mZ dm ds dg dL dQ dZ om os og oL oQ oZ gB gO xk gE gV gU gN G gW gA) t H) (ha : t a = 25) : ∃ (f : Nat → Int32), va_at D vwCl (a, .inl (cI, 2, .inl f)) H := by
  obtain ⟨e, h1, h2⟩ := hG a (by rw [ha]; decide)
  rw [ha] at h2
  obtain ⟨f, rfl⟩ := h2
  exact ⟨f, h1⟩
theorem hF_o26 {D : va_G} {cI cL cC : ClassId} {gC : Int32} {gP : Int32} {gT : Nat → Int32} {gR : Nat → Int32} {mm : Int32} {ms : Int32} {mg : Int32} {mL : Nat → Int32} {mQ : Nat → Int32} {mZ : Nat → Int32} {dm : Int32} {ds : Int32} {dg : Int32} {dL : Nat → Int32} {dQ : Nat → Int32} {dZ : Nat → Int32} {om : Int32} {os : Int32} {og : Int32} {oL : Nat → Int32} {oQ : Nat → Int32} {oZ : Nat → Int32} {gB : Int32} {gO : Int32} {xk : Int32} {gE : Int32} {gV : Nat → Int32} {gU : Nat → Int32} {gN : Nat → Int32} {G : Nat} {gW : Nat → Int32} {gA : Nat → Int32} {t : Nat → Nat} {H : Heap} {a : Nat} (hG : tG D (hF cI cL cC gC gP gT gR mm ms mg mL mQ mZ dm ds dg dL dQ dZ om os og oL oQ oZ gB gO xk gE gV gU gN G gW gA) t H) (ha : t a = 26) : ∃ (f : Nat → Int32), va_at D vwCl (a, .inl (cI, 2, .inl f)) H := by
  obtain ⟨e, h1, h2⟩ := hG a (by rw [ha]; decide)
  rw [ha] at h2
  obtain ⟨f, rfl⟩ := h2
  exact ⟨f, h1⟩
theorem hF_o27 {D : va_G} {cI cL cC : ClassId} {gC : Int32} {gP : Int32} {gT : Nat → Int32} {gR : Nat → Int32} {mm : Int32} {ms : Int32} {mg : Int32} {mL : Nat → Int32} {mQ : Nat → Int32} {mZ : Nat → Int32} {dm : Int32} {ds : Int32} {dg : Int32} {dL : Nat → Int32} {dQ : Nat → Int32} {dZ : Nat → Int32} {om : Int32} {os : Int32} {og : Int32} {oL : Nat → Int32} {oQ : Nat → Int32} {oZ : Nat → Int32} {gB : Int32} {gO : Int32} {xk : Int32} {gE : Int32} {gV : Nat → Int32} {gU : Nat → Int32} {gN : Nat → Int32} {G : Nat} {gW : Nat → Int32} {gA : Nat → Int32} {t : Nat → Nat} {H : Heap} {a : Nat} (hG : tG D (hF cI cL cC gC gP gT gR mm ms mg mL mQ mZ dm ds dg dL dQ dZ om os og oL oQ oZ gB gO xk gE gV gU gN G gW gA) t H) (ha : t a = 27) : ∃ (f : Nat → Int32), va_at D vwCl (a, .inl (cI, 2, .inl f)) H := by
  obtain ⟨e, h1, h2⟩ := hG a (by rw [ha]; decide)
  rw [ha] at h2
  obtain ⟨f, rfl⟩ := h2
  exact ⟨f, h1⟩
theorem hF_o28 {D : va_G} {cI cL cC : ClassId} {gC : Int32} {gP : Int32} {gT : Nat → Int32} {gR : Nat → Int32} {mm : Int32} {ms : Int32} {mg : Int32} {mL : Nat → Int32} {mQ : Nat → Int32} {mZ : Nat → Int32} {dm : Int32} {ds : Int32} {dg : Int32} {dL : Nat → Int32} {dQ : Nat → Int32} {dZ : Nat → Int32} {om : Int32} {os : Int32} {og : Int32} {oL : Nat → Int32} {oQ : Nat → Int32} {oZ : Nat → Int32} {gB : Int32} {gO : Int32} {xk : Int32} {gE : Int32} {gV : Nat → Int32} {gU : Nat → Int32} {gN : Nat → Int32} {G : Nat} {gW : Nat → Int32} {gA : Nat → Int32} {t : Nat → Nat} {H : Heap} {a : Nat} (hG : tG D (hF cI cL cC gC gP gT gR mm ms mg mL mQ mZ dm ds dg dL dQ dZ om os og oL oQ oZ gB gO xk gE gV gU gN G gW gA) t H) (ha : t a = 28) : ∃ (f : Nat → Int32), va_at D vwCl (a, .inl (cI, 2, .inl f)) H ∧ gMany f := by
  obtain ⟨e, h1, h2⟩ := hG a (by rw [ha]; decide)
  rw [ha] at h2
  obtain ⟨f, rfl, w0⟩ := h2
  exact ⟨f, h1, w0⟩
theorem hF_o29 {D : va_G} {cI cL cC : ClassId} {gC : Int32} {gP : Int32} {gT : Nat → Int32} {gR : Nat → Int32} {mm : Int32} {ms : Int32} {mg : Int32} {mL : Nat → Int32} {mQ : Nat → Int32} {mZ : Nat → Int32} {dm : Int32} {ds : Int32} {dg : Int32} {dL : Nat → Int32} {dQ : Nat → Int32} {dZ : Nat → Int32} {om : Int32} {os : Int32} {og : Int32} {oL : Nat → Int32} {oQ : Nat → Int32} {oZ : Nat → Int32} {gB : Int32} {gO : Int32} {xk : Int32} {gE : Int32} {gV : Nat → Int32} {gU : Nat → Int32} {gN : Nat → Int32} {G : Nat} {gW : Nat → Int32} {gA : Nat → Int32} {t : Nat → Nat} {H : Heap} {a : Nat} (hG : tG D (hF cI cL cC gC gP gT gR mm ms mg mL mQ mZ dm ds dg dL dQ dZ om os og oL oQ oZ gB gO xk gE gV gU gN G gW gA) t H) (ha : t a = 29) : va_at D vwCl (a, .inl (cI, 4, .inl gW)) H := by
  obtain ⟨e, h1, h2⟩ := hG a (by rw [ha]; decide)
  rw [ha] at h2
  have h3 : e = .inl (cI, 4, .inl gW) := h2
  rw [h3] at h1
  exact h1
theorem hF_o30 {D : va_G} {cI cL cC : ClassId} {gC : Int32} {gP : Int32} {gT : Nat → Int32} {gR : Nat → Int32} {mm : Int32} {ms : Int32} {mg : Int32} {mL : Nat → Int32} {mQ : Nat → Int32} {mZ : Nat → Int32} {dm : Int32} {ds : Int32} {dg : Int32} {dL : Nat → Int32} {dQ : Nat → Int32} {dZ : Nat → Int32} {om : Int32} {os : Int32} {og : Int32} {oL : Nat → Int32} {oQ : Nat → Int32} {oZ : Nat → Int32} {gB : Int32} {gO : Int32} {xk : Int32} {gE : Int32} {gV : Nat → Int32} {gU : Nat → Int32} {gN : Nat → Int32} {G : Nat} {gW : Nat → Int32} {gA : Nat → Int32} {t : Nat → Nat} {H : Heap} {a : Nat} (hG : tG D (hF cI cL cC gC gP gT gR mm ms mg mL mQ mZ dm ds dg dL dQ dZ om os og oL oQ oZ gB gO xk gE gV gU gN G gW gA) t H) (ha : t a = 30) : ∃ (f : Nat → Int32), va_at D vwCl (a, .inl (cI, 4, .inl f)) H := by
  obtain ⟨e, h1, h2⟩ := hG a (by rw [ha]; decide)
  rw [ha] at h2
  obtain ⟨f, rfl⟩ := h2
  exact ⟨f, h1⟩
theorem hF_o31 {D : va_G} {cI cL cC : ClassId} {gC : Int32} {gP : Int32} {gT : Nat → Int32} {gR : Nat → Int32} {mm : Int32} {ms : Int32} {mg : Int32} {mL : Nat → Int32} {mQ : Nat → Int32} {mZ : Nat → Int32} {dm : Int32} {ds : Int32} {dg : Int32} {dL : Nat → Int32} {dQ : Nat → Int32} {dZ : Nat → Int32} {om : Int32} {os : Int32} {og : Int32} {oL : Nat → Int32} {oQ : Nat → Int32} {oZ : Nat → Int32} {gB : Int32} {gO : Int32} {xk : Int32} {gE : Int32} {gV : Nat → Int32} {gU : Nat → Int32} {gN : Nat → Int32} {G : Nat} {gW : Nat → Int32} {gA : Nat → Int32} {t : Nat → Nat} {H : Heap} {a : Nat} (hG : tG D (hF cI cL cC gC gP gT gR mm ms mg mL mQ mZ dm ds dg dL dQ dZ om os og oL oQ oZ gB gO xk gE gV gU gN G gW gA) t H) (ha : t a = 31) : va_at D vwCl (a, .inl (cI, 96, .inl gA)) H := by
  obtain ⟨e, h1, h2⟩ := hG a (by rw [ha]; decide)
  rw [ha] at h2
  have h3 : e = .inl (cI, 96, .inl gA) := h2
  rw [h3] at h1
  exact h1
theorem hF_o32 {D : va_G} {cI cL cC : ClassId} {gC : Int32} {gP : Int32} {gT : Nat → Int32} {gR : Nat → Int32} {mm : Int32} {ms : Int32} {mg : Int32} {mL : Nat → Int32} {mQ : Nat → Int32} {mZ : Nat → Int32} {dm : Int32} {ds : Int32} {dg : Int32} {dL : Nat → Int32} {dQ : Nat → Int32} {dZ : Nat → Int32} {om : Int32} {os : Int32} {og : Int32} {oL : Nat → Int32} {oQ : Nat → Int32} {oZ : Nat → Int32} {gB : Int32} {gO : Int32} {xk : Int32} {gE : Int32} {gV : Nat → Int32} {gU : Nat → Int32} {gN : Nat → Int32} {G : Nat} {gW : Nat → Int32} {gA : Nat → Int32} {t : Nat → Nat} {H : Heap} {a : Nat} (hG : tG D (hF cI cL cC gC gP gT gR mm ms mg mL mQ mZ dm ds dg dL dQ dZ om os og oL oQ oZ gB gO xk gE gV gU gN G gW gA) t H) (ha : t a = 32) : ∃ (f : Nat → Option Nat), va_at D vwCl (a, .inl (cC, 4, .inr (.inr (.inr (.inr f))))) H ∧ (∀ j : Nat, j < 4 → ∃ x : Nat, f j = some x ∧ t x = 5) := by
  obtain ⟨e, h1, h2⟩ := hG a (by rw [ha]; decide)
  rw [ha] at h2
  obtain ⟨f, rfl, w0⟩ := h2
  exact ⟨f, h1, w0⟩
theorem hF_o33 {D : va_G} {cI cL cC : ClassId} {gC : Int32} {gP : Int32} {gT : Nat → Int32} {gR : Nat → Int32} {mm : Int32} {ms : Int32} {mg : Int32} {mL : Nat → Int32} {mQ : Nat → Int32} {mZ : Nat → Int32} {dm : Int32} {ds : Int32} {dg : Int32} {dL : Nat → Int32} {dQ : Nat → Int32} {dZ : Nat → Int32} {om : Int32} {os : Int32} {og : Int32} {oL : Nat → Int32} {oQ : Nat → Int32} {oZ : Nat → Int32} {gB : Int32} {gO : Int32} {xk : Int32} {gE : Int32} {gV : Nat → Int32} {gU : Nat → Int32} {gN : Nat → Int32} {G : Nat} {gW : Nat → Int32} {gA : Nat → Int32} {t : Nat → Nat} {H : Heap} {a : Nat} (hG : tG D (hF cI cL cC gC gP gT gR mm ms mg mL mQ mZ dm ds dg dL dQ dZ om os og oL oQ oZ gB gO xk gE gV gU gN G gW gA) t H) (ha : t a = 33) : ∃ (f : Nat → Int32), va_at D vwCl (a, .inl (cI, 4, .inl f)) H := by
  obtain ⟨e, h1, h2⟩ := hG a (by rw [ha]; decide)
  rw [ha] at h2
  obtain ⟨f, rfl⟩ := h2
  exact ⟨f, h1⟩
theorem hF_o34 {D : va_G} {cI cL cC : ClassId} {gC : Int32} {gP : Int32} {gT : Nat → Int32} {gR : Nat → Int32} {mm : Int32} {ms : Int32} {mg : Int32} {mL : Nat → Int32} {mQ : Nat → Int32} {mZ : Nat → Int32} {dm : Int32} {ds : Int32} {dg : Int32} {dL : Nat → Int32} {dQ : Nat → Int32} {dZ : Nat → Int32} {om : Int32} {os : Int32} {og : Int32} {oL : Nat → Int32} {oQ : Nat → Int32} {oZ : Nat → Int32} {gB : Int32} {gO : Int32} {xk : Int32} {gE : Int32} {gV : Nat → Int32} {gU : Nat → Int32} {gN : Nat → Int32} {G : Nat} {gW : Nat → Int32} {gA : Nat → Int32} {t : Nat → Nat} {H : Heap} {a : Nat} (hG : tG D (hF cI cL cC gC gP gT gR mm ms mg mL mQ mZ dm ds dg dL dQ dZ om os og oL oQ oZ gB gO xk gE gV gU gN G gW gA) t H) (ha : t a = 34) : ∃ (f : Nat → Int32), va_at D vwCl (a, .inl (cI, 4, .inl f)) H := by
  obtain ⟨e, h1, h2⟩ := hG a (by rw [ha]; decide)
  rw [ha] at h2
  obtain ⟨f, rfl⟩ := h2
  exact ⟨f, h1⟩
theorem hF_o35 {D : va_G} {cI cL cC : ClassId} {gC : Int32} {gP : Int32} {gT : Nat → Int32} {gR : Nat → Int32} {mm : Int32} {ms : Int32} {mg : Int32} {mL : Nat → Int32} {mQ : Nat → Int32} {mZ : Nat → Int32} {dm : Int32} {ds : Int32} {dg : Int32} {dL : Nat → Int32} {dQ : Nat → Int32} {dZ : Nat → Int32} {om : Int32} {os : Int32} {og : Int32} {oL : Nat → Int32} {oQ : Nat → Int32} {oZ : Nat → Int32} {gB : Int32} {gO : Int32} {xk : Int32} {gE : Int32} {gV : Nat → Int32} {gU : Nat → Int32} {gN : Nat → Int32} {G : Nat} {gW : Nat → Int32} {gA : Nat → Int32} {t : Nat → Nat} {H : Heap} {a : Nat} (hG : tG D (hF cI cL cC gC gP gT gR mm ms mg mL mQ mZ dm ds dg dL dQ dZ om os og oL oQ oZ gB gO xk gE gV gU gN G gW gA) t H) (ha : t a = 35) : ∃ (f : Nat → Int32), va_at D vwCl (a, .inl (cI, 16, .inl f)) H := by
  obtain ⟨e, h1, h2⟩ := hG a (by rw [ha]; decide)
  rw [ha] at h2
  obtain ⟨f, rfl⟩ := h2
  exact ⟨f, h1⟩
theorem hF_o36 {D : va_G} {cI cL cC : ClassId} {gC : Int32} {gP : Int32} {gT : Nat → Int32} {gR : Nat → Int32} {mm : Int32} {ms : Int32} {mg : Int32} {mL : Nat → Int32} {mQ : Nat → Int32} {mZ : Nat → Int32} {dm : Int32} {ds : Int32} {dg : Int32} {dL : Nat → Int32} {dQ : Nat → Int32} {dZ : Nat → Int32} {om : Int32} {os : Int32} {og : Int32} {oL : Nat → Int32} {oQ : Nat → Int32} {oZ : Nat → Int32} {gB : Int32} {gO : Int32} {xk : Int32} {gE : Int32} {gV : Nat → Int32} {gU : Nat → Int32} {gN : Nat → Int32} {G : Nat} {gW : Nat → Int32} {gA : Nat → Int32} {t : Nat → Nat} {H : Heap} {a : Nat} (hG : tG D (hF cI cL cC gC gP gT gR mm ms mg mL mQ mZ dm ds dg dL dQ dZ om os og oL oQ oZ gB gO xk gE gV gU gN G gW gA) t H) (ha : t a = 36) : ∃ (f : Nat → Option Nat), va_at D vwCl (a, .inl (cC, 3, .inr (.inr (.inr (.inr f))))) H ∧ (∀ j : Nat, j < 3 → ∃ x : Nat, f j = some x ∧ t x = 5) := by
  obtain ⟨e, h1, h2⟩ := hG a (by rw [ha]; decide)
  rw [ha] at h2
  obtain ⟨f, rfl, w0⟩ := h2
  exact ⟨f, h1, w0⟩
theorem hF_o37 {D : va_G} {cI cL cC : ClassId} {gC : Int32} {gP : Int32} {gT : Nat → Int32} {gR : Nat → Int32} {mm : Int32} {ms : Int32} {mg : Int32} {mL : Nat → Int32} {mQ : Nat → Int32} {mZ : Nat → Int32} {dm : Int32} {ds : Int32} {dg : Int32} {dL : Nat → Int32} {dQ : Nat → Int32} {dZ : Nat → Int32} {om : Int32} {os : Int32} {og : Int32} {oL : Nat → Int32} {oQ : Nat → Int32} {oZ : Nat → Int32} {gB : Int32} {gO : Int32} {xk : Int32} {gE : Int32} {gV : Nat → Int32} {gU : Nat → Int32} {gN : Nat → Int32} {G : Nat} {gW : Nat → Int32} {gA : Nat → Int32} {t : Nat → Nat} {H : Heap} {a : Nat} (hG : tG D (hF cI cL cC gC gP gT gR mm ms mg mL mQ mZ dm ds dg dL dQ dZ om os og oL oQ oZ gB gO xk gE gV gU gN G gW gA) t H) (ha : t a = 37) : ∃ (r0 : Nat) (r1 : Nat) (r2 : Nat), va_at D vwCl (a, .inr (3, [.ref r0, .ref r1, .ref r2, .int dm, .int ds, .int dg])) H ∧ t r0 = 38 ∧ t r1 = 39 ∧ t r2 = 40 := by
  obtain ⟨e, h1, h2⟩ := hG a (by rw [ha]; decide)
  rw [ha] at h2
  obtain ⟨r0, r1, r2, rfl, w0, w1, w2⟩ := h2
  exact ⟨r0, r1, r2, h1, w0, w1, w2⟩
theorem hF_o38 {D : va_G} {cI cL cC : ClassId} {gC : Int32} {gP : Int32} {gT : Nat → Int32} {gR : Nat → Int32} {mm : Int32} {ms : Int32} {mg : Int32} {mL : Nat → Int32} {mQ : Nat → Int32} {mZ : Nat → Int32} {dm : Int32} {ds : Int32} {dg : Int32} {dL : Nat → Int32} {dQ : Nat → Int32} {dZ : Nat → Int32} {om : Int32} {os : Int32} {og : Int32} {oL : Nat → Int32} {oQ : Nat → Int32} {oZ : Nat → Int32} {gB : Int32} {gO : Int32} {xk : Int32} {gE : Int32} {gV : Nat → Int32} {gU : Nat → Int32} {gN : Nat → Int32} {G : Nat} {gW : Nat → Int32} {gA : Nat → Int32} {t : Nat → Nat} {H : Heap} {a : Nat} (hG : tG D (hF cI cL cC gC gP gT gR mm ms mg mL mQ mZ dm ds dg dL dQ dZ om os og oL oQ oZ gB gO xk gE gV gU gN G gW gA) t H) (ha : t a = 38) : va_at D vwCl (a, .inl (cI, 240, .inl dL)) H := by
  obtain ⟨e, h1, h2⟩ := hG a (by rw [ha]; decide)
  rw [ha] at h2
  have h3 : e = .inl (cI, 240, .inl dL) := h2
  rw [h3] at h1
  exact h1
theorem hF_o39 {D : va_G} {cI cL cC : ClassId} {gC : Int32} {gP : Int32} {gT : Nat → Int32} {gR : Nat → Int32} {mm : Int32} {ms : Int32} {mg : Int32} {mL : Nat → Int32} {mQ : Nat → Int32} {mZ : Nat → Int32} {dm : Int32} {ds : Int32} {dg : Int32} {dL : Nat → Int32} {dQ : Nat → Int32} {dZ : Nat → Int32} {om : Int32} {os : Int32} {og : Int32} {oL : Nat → Int32} {oQ : Nat → Int32} {oZ : Nat → Int32} {gB : Int32} {gO : Int32} {xk : Int32} {gE : Int32} {gV : Nat → Int32} {gU : Nat → Int32} {gN : Nat → Int32} {G : Nat} {gW : Nat → Int32} {gA : Nat → Int32} {t : Nat → Nat} {H : Heap} {a : Nat} (hG : tG D (hF cI cL cC gC gP gT gR mm ms mg mL mQ mZ dm ds dg dL dQ dZ om os og oL oQ oZ gB gO xk gE gV gU gN G gW gA) t H) (ha : t a = 39) : va_at D vwCl (a, .inl (cI, 16, .inl dQ)) H := by
  obtain ⟨e, h1, h2⟩ := hG a (by rw [ha]; decide)
  rw [ha] at h2
  have h3 : e = .inl (cI, 16, .inl dQ) := h2
  rw [h3] at h1
  exact h1
theorem hF_o40 {D : va_G} {cI cL cC : ClassId} {gC : Int32} {gP : Int32} {gT : Nat → Int32} {gR : Nat → Int32} {mm : Int32} {ms : Int32} {mg : Int32} {mL : Nat → Int32} {mQ : Nat → Int32} {mZ : Nat → Int32} {dm : Int32} {ds : Int32} {dg : Int32} {dL : Nat → Int32} {dQ : Nat → Int32} {dZ : Nat → Int32} {om : Int32} {os : Int32} {og : Int32} {oL : Nat → Int32} {oQ : Nat → Int32} {oZ : Nat → Int32} {gB : Int32} {gO : Int32} {xk : Int32} {gE : Int32} {gV : Nat → Int32} {gU : Nat → Int32} {gN : Nat → Int32} {G : Nat} {gW : Nat → Int32} {gA : Nat → Int32} {t : Nat → Nat} {H : Heap} {a : Nat} (hG : tG D (hF cI cL cC gC gP gT gR mm ms mg mL mQ mZ dm ds dg dL dQ dZ om os og oL oQ oZ gB gO xk gE gV gU gN G gW gA) t H) (ha : t a = 40) : va_at D vwCl (a, .inl (cI, 4, .inl dZ)) H := by
  obtain ⟨e, h1, h2⟩ := hG a (by rw [ha]; decide)
  rw [ha] at h2
  have h3 : e = .inl (cI, 4, .inl dZ) := h2
  rw [h3] at h1
  exact h1
theorem hF_o41 {D : va_G} {cI cL cC : ClassId} {gC : Int32} {gP : Int32} {gT : Nat → Int32} {gR : Nat → Int32} {mm : Int32} {ms : Int32} {mg : Int32} {mL : Nat → Int32} {mQ : Nat → Int32} {mZ : Nat → Int32} {dm : Int32} {ds : Int32} {dg : Int32} {dL : Nat → Int32} {dQ : Nat → Int32} {dZ : Nat → Int32} {om : Int32} {os : Int32} {og : Int32} {oL : Nat → Int32} {oQ : Nat → Int32} {oZ : Nat → Int32} {gB : Int32} {gO : Int32} {xk : Int32} {gE : Int32} {gV : Nat → Int32} {gU : Nat → Int32} {gN : Nat → Int32} {G : Nat} {gW : Nat → Int32} {gA : Nat → Int32} {t : Nat → Nat} {H : Heap} {a : Nat} (hG : tG D (hF cI cL cC gC gP gT gR mm ms mg mL mQ mZ dm ds dg dL dQ dZ om os og oL oQ oZ gB gO xk gE gV gU gN G gW gA) t H) (ha : t a = 41) : ∃ (r0 : Nat) (r1 : Nat) (r2 : Nat), va_at D vwCl (a, .inr (3, [.ref r0, .ref r1, .ref r2, .int om, .int os, .int og])) H ∧ t r0 = 42 ∧ t r1 = 43 ∧ t r2 = 44 := by
  obtain ⟨e, h1, h2⟩ := hG a (by rw [ha]; decide)
  rw [ha] at h2
  obtain ⟨r0, r1, r2, rfl, w0, w1, w2⟩ := h2
  exact ⟨r0, r1, r2, h1, w0, w1, w2⟩
theorem hF_o42 {D : va_G} {cI cL cC : ClassId} {gC : Int32} {gP : Int32} {gT : Nat → Int32} {gR : Nat → Int32} {mm : Int32} {ms : Int32} {mg : Int32} {mL : Nat → Int32} {mQ : Nat → Int32} {mZ : Nat → Int32} {dm : Int32} {ds : Int32} {dg : Int32} {dL : Nat → Int32} {dQ : Nat → Int32} {dZ : Nat → Int32} {om : Int32} {os : Int32} {og : Int32} {oL : Nat → Int32} {oQ : Nat → Int32} {oZ : Nat → Int32} {gB : Int32} {gO : Int32} {xk : Int32} {gE : Int32} {gV : Nat → Int32} {gU : Nat → Int32} {gN : Nat → Int32} {G : Nat} {gW : Nat → Int32} {gA : Nat → Int32} {t : Nat → Nat} {H : Heap} {a : Nat} (hG : tG D (hF cI cL cC gC gP gT gR mm ms mg mL mQ mZ dm ds dg dL dQ dZ om os og oL oQ oZ gB gO xk gE gV gU gN G gW gA) t H) (ha : t a = 42) : va_at D vwCl (a, .inl (cI, 240, .inl oL)) H := by
  obtain ⟨e, h1, h2⟩ := hG a (by rw [ha]; decide)
  rw [ha] at h2
  have h3 : e = .inl (cI, 240, .inl oL) := h2
  rw [h3] at h1
  exact h1
theorem hF_o43 {D : va_G} {cI cL cC : ClassId} {gC : Int32} {gP : Int32} {gT : Nat → Int32} {gR : Nat → Int32} {mm : Int32} {ms : Int32} {mg : Int32} {mL : Nat → Int32} {mQ : Nat → Int32} {mZ : Nat → Int32} {dm : Int32} {ds : Int32} {dg : Int32} {dL : Nat → Int32} {dQ : Nat → Int32} {dZ : Nat → Int32} {om : Int32} {os : Int32} {og : Int32} {oL : Nat → Int32} {oQ : Nat → Int32} {oZ : Nat → Int32} {gB : Int32} {gO : Int32} {xk : Int32} {gE : Int32} {gV : Nat → Int32} {gU : Nat → Int32} {gN : Nat → Int32} {G : Nat} {gW : Nat → Int32} {gA : Nat → Int32} {t : Nat → Nat} {H : Heap} {a : Nat} (hG : tG D (hF cI cL cC gC gP gT gR mm ms mg mL mQ mZ dm ds dg dL dQ dZ om os og oL oQ oZ gB gO xk gE gV gU gN G gW gA) t H) (ha : t a = 43) : va_at D vwCl (a, .inl (cI, 16, .inl oQ)) H := by
  obtain ⟨e, h1, h2⟩ := hG a (by rw [ha]; decide)
  rw [ha] at h2
  have h3 : e = .inl (cI, 16, .inl oQ) := h2
  rw [h3] at h1
  exact h1
theorem hF_o44 {D : va_G} {cI cL cC : ClassId} {gC : Int32} {gP : Int32} {gT : Nat → Int32} {gR : Nat → Int32} {mm : Int32} {ms : Int32} {mg : Int32} {mL : Nat → Int32} {mQ : Nat → Int32} {mZ : Nat → Int32} {dm : Int32} {ds : Int32} {dg : Int32} {dL : Nat → Int32} {dQ : Nat → Int32} {dZ : Nat → Int32} {om : Int32} {os : Int32} {og : Int32} {oL : Nat → Int32} {oQ : Nat → Int32} {oZ : Nat → Int32} {gB : Int32} {gO : Int32} {xk : Int32} {gE : Int32} {gV : Nat → Int32} {gU : Nat → Int32} {gN : Nat → Int32} {G : Nat} {gW : Nat → Int32} {gA : Nat → Int32} {t : Nat → Nat} {H : Heap} {a : Nat} (hG : tG D (hF cI cL cC gC gP gT gR mm ms mg mL mQ mZ dm ds dg dL dQ dZ om os og oL oQ oZ gB gO xk gE gV gU gN G gW gA) t H) (ha : t a = 44) : va_at D vwCl (a, .inl (cI, 4, .inl oZ)) H := by
  obtain ⟨e, h1, h2⟩ := hG a (by rw [ha]; decide)
  rw [ha] at h2
  have h3 : e = .inl (cI, 4, .inl oZ) := h2
  rw [h3] at h1
  exact h1
abbrev hT : Nat → Bool := wrL [2, 10]
abbrev hTR : Nat → Bool := wrL [2, 11]
abbrev hF1 : Nat → Bool := wrL [2, 11, 37, 38, 39, 40]
abbrev hG6 : Nat → Bool := wrL [21, 22, 23]
abbrev hE6 : Nat → Bool := wrL [6]
abbrev hK1 : Nat → Bool := wrL [1, 5, 17, 18, 19, 20]
abbrev hBec : Nat → Bool := wrL [1, 5, 17, 18, 19, 20, 35]
abbrev hPH : Nat → Bool := wrL [37, 38, 39, 40, 5, 17, 18, 19, 20]
abbrev hTake : Nat → Bool := wrL [1, 37, 38, 39, 40, 5, 17, 18, 19, 20, 35]
abbrev hSw : Nat → Bool := wrL [1, 2, 11, 41, 42, 43, 44]
abbrev hBu : Nat → Bool := wrL [1, 2, 11, 37, 38, 39, 40, 21, 22, 23, 24, 25, 26, 27, 28, 5, 17, 18, 19, 20, 35]
def uqK : Nat → Bool := wrL [1, 2, 3, 6, 7, 8, 9, 10, 11, 12, 13, 14, 21, 22, 23, 24, 25, 26, 27, 28, 29, 30, 31, 32, 33, 34, 35, 36, 37, 38, 39, 40, 41, 42, 43, 44]
theorem hF_gC {cI cL cC : ClassId} {gC : Int32} {gP : Int32} {gT : Nat → Int32} {gR : Nat → Int32} {mm : Int32} {ms : Int32} {mg : Int32} {mL : Nat → Int32} {mQ : Nat → Int32} {mZ : Nat → Int32} {dm : Int32} {ds : Int32} {dg : Int32} {dL : Nat → Int32} {dQ : Nat → Int32} {dZ : Nat → Int32} {om : Int32} {os : Int32} {og : Int32} {oL : Nat → Int32} {oQ : Nat → Int32} {oZ : Nat → Int32} {gB : Int32} {gO : Int32} {xk : Int32} {gE : Int32} {gV : Nat → Int32} {gU : Nat → Int32} {gN : Nat → Int32} {G : Nat} {gW : Nat → Int32} {gA : Nat → Int32} {gC' : Int32} {t : Nat → Nat} : ∀ {k : Nat} {e : va_E}, k ≠ 2 → hF cI cL cC gC gP gT gR mm ms mg mL mQ mZ dm ds dg dL dQ dZ om os og oL oQ oZ gB gO xk gE gV gU gN G gW gA t k e → hF cI cL cC gC' gP gT gR mm ms mg mL mQ mZ dm ds dg dL dQ dZ om os og oL oQ oZ gB gO xk gE gV gU gN G gW gA t k e
  | 0, _, _, h => h
  | 1, _, _, h => h
  | 2, _, hk, _ => absurd rfl hk
  | 3, _, _, h => h
  | 4, _, _, h => h
  | 5, _, _, h => h
  | 6, _, _, h => h
  | 7, _, _, h => h
  | 8, _, _, h => h
  | 9, _, _, h => h
  | 10, _, _, h => h
  | 11, _, _, h => h
  | 12, _, _, h => h
  | 13, _, _, h => h
  | 14, _, _, h => h
  | 15, _, _, h => h
  | 16, _, _, h => h
  | 17, _, _, h => h
  | 18, _, _, h => h
  | 19, _, _, h => h
  | 20, _, _, h => h
  | 21, _, _, h => h
  | 22, _, _, h => h
  | 23, _, _, h => h
  | 24, _, _, h => h
  | 25, _, _, h => h
  | 26, _, _, h => h
  | 27, _, _, h => h
  | 28, _, _, h => h
  | 29, _, _, h => h
  | 30, _, _, h => h
  | 31, _, _, h => h
  | 32, _, _, h => h
  | 33, _, _, h => h
  | 34, _, _, h => h
  | 35, _, _, h => h
  | 36, _, _, h => h
  | 37, _, _, h => h
  | 38, _, _, h => h
  | 39, _, _, h => h
  | 40, _, _, h => h
  | 41, _, _, h => h
  | 42, _, _, h => h
  | 43, _, _, h => h
  | 44, _, _, h => h
  | _ + 45, _, _, h => h
theorem hF_gP {cI cL cC : ClassId} {gC : Int32} {gP : Int32} {gT : Nat → Int32} {gR : Nat → Int32} {mm : Int32} {ms : Int32} {mg : Int32} {mL : Nat → Int32} {mQ : Nat → Int32} {mZ : Nat → Int32} {dm : Int32} {ds : Int32} {dg : Int32} {dL : Nat → Int32} {dQ : Nat → Int32} {dZ : Nat → Int32} {om : Int32} {os : Int32} {og : Int32} {oL : Nat → Int32} {oQ : Nat → Int32} {oZ : Nat → Int32} {gB : Int32} {gO : Int32} {xk : Int32} {gE : Int32} {gV : Nat → Int32} {gU : Nat → Int32} {gN : Nat → Int32} {G : Nat} {gW : Nat → Int32} {gA : Nat → Int32} {gP' : Int32} {t : Nat → Nat} : ∀ {k : Nat} {e : va_E}, k ≠ 2 → hF cI cL cC gC gP gT gR mm ms mg mL mQ mZ dm ds dg dL dQ dZ om os og oL oQ oZ gB gO xk gE gV gU gN G gW gA t k e → hF cI cL cC gC gP' gT gR mm ms mg mL mQ mZ dm ds dg dL dQ dZ om os og oL oQ oZ gB gO xk gE gV gU gN G gW gA t k e
  | 0, _, _, h => h
  | 1, _, _, h => h
  | 2, _, hk, _ => absurd rfl hk
  | 3, _, _, h => h
  | 4, _, _, h => h
  | 5, _, _, h => h
  | 6, _, _, h => h
  | 7, _, _, h => h
  | 8, _, _, h => h
  | 9, _, _, h => h
  | 10, _, _, h => h
  | 11, _, _, h => h
  | 12, _, _, h => h
  | 13, _, _, h => h
  | 14, _, _, h => h
  | 15, _, _, h => h
  | 16, _, _, h => h
  | 17, _, _, h => h
  | 18, _, _, h => h
  | 19, _, _, h => h
  | 20, _, _, h => h
  | 21, _, _, h => h
  | 22, _, _, h => h
  | 23, _, _, h => h
  | 24, _, _, h => h
  | 25, _, _, h => h
  | 26, _, _, h => h
  | 27, _, _, h => h
  | 28, _, _, h => h
  | 29, _, _, h => h
  | 30, _, _, h => h
  | 31, _, _, h => h
  | 32, _, _, h => h
  | 33, _, _, h => h
  | 34, _, _, h => h
  | 35, _, _, h => h
  | 36, _, _, h => h
  | 37, _, _, h => h
  | 38, _, _, h => h
  | 39, _, _, h => h
  | 40, _, _, h => h
  | 41, _, _, h => h
  | 42, _, _, h => h
  | 43, _, _, h => h
  | 44, _, _, h => h
  | _ + 45, _, _, h => h
theorem hF_gT {cI cL cC : ClassId} {gC : Int32} {gP : Int32} {gT : Nat → Int32} {gR : Nat → Int32} {mm : Int32} {ms : Int32} {mg : Int32} {mL : Nat → Int32} {mQ : Nat → Int32} {mZ : Nat → Int32} {dm : Int32} {ds : Int32} {dg : Int32} {dL : Nat → Int32} {dQ : Nat → Int32} {dZ : Nat → Int32} {om : Int32} {os : Int32} {og : Int32} {oL : Nat → Int32} {oQ : Nat → Int32} {oZ : Nat → Int32} {gB : Int32} {gO : Int32} {xk : Int32} {gE : Int32} {gV : Nat → Int32} {gU : Nat → Int32} {gN : Nat → Int32} {G : Nat} {gW : Nat → Int32} {gA : Nat → Int32} {gT' : Nat → Int32} {t : Nat → Nat} : ∀ {k : Nat} {e : va_E}, k ≠ 10 → hF cI cL cC gC gP gT gR mm ms mg mL mQ mZ dm ds dg dL dQ dZ om os og oL oQ oZ gB gO xk gE gV gU gN G gW gA t k e → hF cI cL cC gC gP gT' gR mm ms mg mL mQ mZ dm ds dg dL dQ dZ om os og oL oQ oZ gB gO xk gE gV gU gN G gW gA t k e
  | 0, _, _, h => h
  | 1, _, _, h => h
  | 2, _, _, h => h
  | 3, _, _, h => h
  | 4, _, _, h => h
  | 5, _, _, h => h
  | 6, _, _, h => h
  | 7, _, _, h => h
  | 8, _, _, h => h
  | 9, _, _, h => h
  | 10, _, hk, _ => absurd rfl hk
  | 11, _, _, h => h
  | 12, _, _, h => h
  | 13, _, _, h => h
  | 14, _, _, h => h
  | 15, _, _, h => h
  | 16, _, _, h => h
  | 17, _, _, h => h
  | 18, _, _, h => h
  | 19, _, _, h => h
  | 20, _, _, h => h
  | 21, _, _, h => h
  | 22, _, _, h => h
  | 23, _, _, h => h
  | 24, _, _, h => h
  | 25, _, _, h => h
  | 26, _, _, h => h
  | 27, _, _, h => h
  | 28, _, _, h => h
  | 29, _, _, h => h
  | 30, _, _, h => h
  | 31, _, _, h => h
  | 32, _, _, h => h
  | 33, _, _, h => h
  | 34, _, _, h => h
  | 35, _, _, h => h
  | 36, _, _, h => h
  | 37, _, _, h => h
  | 38, _, _, h => h
  | 39, _, _, h => h
  | 40, _, _, h => h
  | 41, _, _, h => h
  | 42, _, _, h => h
  | 43, _, _, h => h
  | 44, _, _, h => h
  | _ + 45, _, _, h => h
theorem hF_gR {cI cL cC : ClassId} {gC : Int32} {gP : Int32} {gT : Nat → Int32} {gR : Nat → Int32} {mm : Int32} {ms : Int32} {mg : Int32} {mL : Nat → Int32} {mQ : Nat → Int32} {mZ : Nat → Int32} {dm : Int32} {ds : Int32} {dg : Int32} {dL : Nat → Int32} {dQ : Nat → Int32} {dZ : Nat → Int32} {om : Int32} {os : Int32} {og : Int32} {oL : Nat → Int32} {oQ : Nat → Int32} {oZ : Nat → Int32} {gB : Int32} {gO : Int32} {xk : Int32} {gE : Int32} {gV : Nat → Int32} {gU : Nat → Int32} {gN : Nat → Int32} {G : Nat} {gW : Nat → Int32} {gA : Nat → Int32} {gR' : Nat → Int32} {t : Nat → Nat} : ∀ {k : Nat} {e : va_E}, k ≠ 11 → hF cI cL cC gC gP gT gR mm ms mg mL mQ mZ dm ds dg dL dQ dZ om os og oL oQ oZ gB gO xk gE gV gU gN G gW gA t k e → hF cI cL cC gC gP gT gR' mm ms mg mL mQ mZ dm ds dg dL dQ dZ om os og oL oQ oZ gB gO xk gE gV gU gN G gW gA t k e
  | 0, _, _, h => h
  | 1, _, _, h => h
  | 2, _, _, h => h
  | 3, _, _, h => h
  | 4, _, _, h => h
  | 5, _, _, h => h
  | 6, _, _, h => h
  | 7, _, _, h => h
  | 8, _, _, h => h
  | 9, _, _, h => h
  | 10, _, _, h => h
  | 11, _, hk, _ => absurd rfl hk
  | 12, _, _, h => h
  | 13, _, _, h => h
  | 14, _, _, h => h
  | 15, _, _, h => h
  | 16, _, _, h => h
  | 17, _, _, h => h
  | 18, _, _, h => h
  | 19, _, _, h => h
  | 20, _, _, h => h
  | 21, _, _, h => h
  | 22, _, _, h => h
  | 23, _, _, h => h
  | 24, _, _, h => h
  | 25, _, _, h => h
  | 26, _, _, h => h
  | 27, _, _, h => h
  | 28, _, _, h => h
  | 29, _, _, h => h
  | 30, _, _, h => h
  | 31, _, _, h => h
  | 32, _, _, h => h
  | 33, _, _, h => h
  | 34, _, _, h => h
  | 35, _, _, h => h
  | 36, _, _, h => h
  | 37, _, _, h => h
  | 38, _, _, h => h
  | 39, _, _, h => h
  | 40, _, _, h => h
  | 41, _, _, h => h
  | 42, _, _, h => h
  | 43, _, _, h => h
  | 44, _, _, h => h
  | _ + 45, _, _, h => h
theorem hF_mm {cI cL cC : ClassId} {gC : Int32} {gP : Int32} {gT : Nat → Int32} {gR : Nat → Int32} {mm : Int32} {ms : Int32} {mg : Int32} {mL : Nat → Int32} {mQ : Nat → Int32} {mZ : Nat → Int32} {dm : Int32} {ds : Int32} {dg : Int32} {dL : Nat → Int32} {dQ : Nat → Int32} {dZ : Nat → Int32} {om : Int32} {os : Int32} {og : Int32} {oL : Nat → Int32} {oQ : Nat → Int32} {oZ : Nat → Int32} {gB : Int32} {gO : Int32} {xk : Int32} {gE : Int32} {gV : Nat → Int32} {gU : Nat → Int32} {gN : Nat → Int32} {G : Nat} {gW : Nat → Int32} {gA : Nat → Int32} {mm' : Int32} {t : Nat → Nat} : ∀ {k : Nat} {e : va_E}, k ≠ 3 → hF cI cL cC gC gP gT gR mm ms mg mL mQ mZ dm ds dg dL dQ dZ om os og oL oQ oZ gB gO xk gE gV gU gN G gW gA t k e → hF cI cL cC gC gP gT gR mm' ms mg mL mQ mZ dm ds dg dL dQ dZ om os og oL oQ oZ gB gO xk gE gV gU gN G gW gA t k e
  | 0, _, _, h => h
  | 1, _, _, h => h
  | 2, _, _, h => h
  | 3, _, hk, _ => absurd rfl hk
  | 4, _, _, h => h
  | 5, _, _, h => h
  | 6, _, _, h => h
  | 7, _, _, h => h
  | 8, _, _, h => h
  | 9, _, _, h => h
  | 10, _, _, h => h
  | 11, _, _, h => h
  | 12, _, _, h => h
  | 13, _, _, h => h
  | 14, _, _, h => h
  | 15, _, _, h => h
  | 16, _, _, h => h
  | 17, _, _, h => h
  | 18, _, _, h => h
  | 19, _, _, h => h
  | 20, _, _, h => h
  | 21, _, _, h => h
  | 22, _, _, h => h
  | 23, _, _, h => h
  | 24, _, _, h => h
  | 25, _, _, h => h
  | 26, _, _, h => h
  | 27, _, _, h => h
  | 28, _, _, h => h
  | 29, _, _, h => h
  | 30, _, _, h => h
  | 31, _, _, h => h
  | 32, _, _, h => h
  | 33, _, _, h => h
  | 34, _, _, h => h
  | 35, _, _, h => h
  | 36, _, _, h => h
  | 37, _, _, h => h
  | 38, _, _, h => h
  | 39, _, _, h => h
  | 40, _, _, h => h
  | 41, _, _, h => h
  | 42, _, _, h => h
  | 43, _, _, h => h
  | 44, _, _, h => h
  | _ + 45, _, _, h => h
theorem hF_ms {cI cL cC : ClassId} {gC : Int32} {gP : Int32} {gT : Nat → Int32} {gR : Nat → Int32} {mm : Int32} {ms : Int32} {mg : Int32} {mL : Nat → Int32} {mQ : Nat → Int32} {mZ : Nat → Int32} {dm : Int32} {ds : Int32} {dg : Int32} {dL : Nat → Int32} {dQ : Nat → Int32} {dZ : Nat → Int32} {om : Int32} {os : Int32} {og : Int32} {oL : Nat → Int32} {oQ : Nat → Int32} {oZ : Nat → Int32} {gB : Int32} {gO : Int32} {xk : Int32} {gE : Int32} {gV : Nat → Int32} {gU : Nat → Int32} {gN : Nat → Int32} {G : Nat} {gW : Nat → Int32} {gA : Nat → Int32} {ms' : Int32} {t : Nat → Nat} : ∀ {k : Nat} {e : va_E}, k ≠ 3 → hF cI cL cC gC gP gT gR mm ms mg mL mQ mZ dm ds dg dL dQ dZ om os og oL oQ oZ gB gO xk gE gV gU gN G gW gA t k e → hF cI cL cC gC gP gT gR mm ms' mg mL mQ mZ dm ds dg dL dQ dZ om os og oL oQ oZ gB gO xk gE gV gU gN G gW gA t k e
  | 0, _, _, h => h
  | 1, _, _, h => h
  | 2, _, _, h => h
  | 3, _, hk, _ => absurd rfl hk
  | 4, _, _, h => h
  | 5, _, _, h => h
  | 6, _, _, h => h
  | 7, _, _, h => h
  | 8, _, _, h => h
  | 9, _, _, h => h
  | 10, _, _, h => h
  | 11, _, _, h => h
  | 12, _, _, h => h
  | 13, _, _, h => h
  | 14, _, _, h => h
  | 15, _, _, h => h
  | 16, _, _, h => h
  | 17, _, _, h => h
  | 18, _, _, h => h
  | 19, _, _, h => h
  | 20, _, _, h => h
  | 21, _, _, h => h
  | 22, _, _, h => h
  | 23, _, _, h => h
  | 24, _, _, h => h
  | 25, _, _, h => h
  | 26, _, _, h => h
  | 27, _, _, h => h
  | 28, _, _, h => h
  | 29, _, _, h => h
  | 30, _, _, h => h
  | 31, _, _, h => h
  | 32, _, _, h => h
  | 33, _, _, h => h
  | 34, _, _, h => h
  | 35, _, _, h => h
  | 36, _, _, h => h
  | 37, _, _, h => h
  | 38, _, _, h => h
  | 39, _, _, h => h
  | 40, _, _, h => h
  | 41, _, _, h => h
  | 42, _, _, h => h
  | 43, _, _, h => h
  | 44, _, _, h => h
  | _ + 45, _, _, h => h
theorem hF_mg {cI cL cC : ClassId} {gC : Int32} {gP : Int32} {gT : Nat → Int32} {gR : Nat → Int32} {mm : Int32} {ms : Int32} {mg : Int32} {mL : Nat → Int32} {mQ : Nat → Int32} {mZ : Nat → Int32} {dm : Int32} {ds : Int32} {dg : Int32} {dL : Nat → Int32} {dQ : Nat → Int32} {dZ : Nat → Int32} {om : Int32} {os : Int32} {og : Int32} {oL : Nat → Int32} {oQ : Nat → Int32} {oZ : Nat → Int32} {gB : Int32} {gO : Int32} {xk : Int32} {gE : Int32} {gV : Nat → Int32} {gU : Nat → Int32} {gN : Nat → Int32} {G : Nat} {gW : Nat → Int32} {gA : Nat → Int32} {mg' : Int32} {t : Nat → Nat} : ∀ {k : Nat} {e : va_E}, k ≠ 3 → hF cI cL cC gC gP gT gR mm ms mg mL mQ mZ dm ds dg dL dQ dZ om os og oL oQ oZ gB gO xk gE gV gU gN G gW gA t k e → hF cI cL cC gC gP gT gR mm ms mg' mL mQ mZ dm ds dg dL dQ dZ om os og oL oQ oZ gB gO xk gE gV gU gN G gW gA t k e
  | 0, _, _, h => h
  | 1, _, _, h => h
  | 2, _, _, h => h
  | 3, _, hk, _ => absurd rfl hk
  | 4, _, _, h => h
  | 5, _, _, h => h
  | 6, _, _, h => h
  | 7, _, _, h => h
  | 8, _, _, h => h
  | 9, _, _, h => h
  | 10, _, _, h => h
  | 11, _, _, h => h
  | 12, _, _, h => h
  | 13, _, _, h => h
  | 14, _, _, h => h
  | 15, _, _, h => h
  | 16, _, _, h => h
  | 17, _, _, h => h
  | 18, _, _, h => h
  | 19, _, _, h => h
  | 20, _, _, h => h
  | 21, _, _, h => h
  | 22, _, _, h => h
  | 23, _, _, h => h
  | 24, _, _, h => h
  | 25, _, _, h => h
  | 26, _, _, h => h
  | 27, _, _, h => h
  | 28, _, _, h => h
  | 29, _, _, h => h
  | 30, _, _, h => h
  | 31, _, _, h => h
  | 32, _, _, h => h
  | 33, _, _, h => h
  | 34, _, _, h => h
  | 35, _, _, h => h
  | 36, _, _, h => h
  | 37, _, _, h => h
  | 38, _, _, h => h
  | 39, _, _, h => h
  | 40, _, _, h => h
  | 41, _, _, h => h
  | 42, _, _, h => h
  | 43, _, _, h => h
  | 44, _, _, h => h
  | _ + 45, _, _, h => h
theorem hF_mL {cI cL cC : ClassId} {gC : Int32} {gP : Int32} {gT : Nat → Int32} {gR : Nat → Int32} {mm : Int32} {ms : Int32} {mg : Int32} {mL : Nat → Int32} {mQ : Nat → Int32} {mZ : Nat → Int32} {dm : Int32} {ds : Int32} {dg : Int32} {dL : Nat → Int32} {dQ : Nat → Int32} {dZ : Nat → Int32} {om : Int32} {os : Int32} {og : Int32} {oL : Nat → Int32} {oQ : Nat → Int32} {oZ : Nat → Int32} {gB : Int32} {gO : Int32} {xk : Int32} {gE : Int32} {gV : Nat → Int32} {gU : Nat → Int32} {gN : Nat → Int32} {G : Nat} {gW : Nat → Int32} {gA : Nat → Int32} {mL' : Nat → Int32} {t : Nat → Nat} : ∀ {k : Nat} {e : va_E}, k ≠ 12 → hF cI cL cC gC gP gT gR mm ms mg mL mQ mZ dm ds dg dL dQ dZ om os og oL oQ oZ gB gO xk gE gV gU gN G gW gA t k e → hF cI cL cC gC gP gT gR mm ms mg mL' mQ mZ dm ds dg dL dQ dZ om os og oL oQ oZ gB gO xk gE gV gU gN G gW gA t k e
  | 0, _, _, h => h
  | 1, _, _, h => h
  | 2, _, _, h => h
  | 3, _, _, h => h
  | 4, _, _, h => h
  | 5, _, _, h => h
  | 6, _, _, h => h
  | 7, _, _, h => h
  | 8, _, _, h => h
  | 9, _, _, h => h
  | 10, _, _, h => h
  | 11, _, _, h => h
  | 12, _, hk, _ => absurd rfl hk
  | 13, _, _, h => h
  | 14, _, _, h => h
  | 15, _, _, h => h
  | 16, _, _, h => h
  | 17, _, _, h => h
  | 18, _, _, h => h
  | 19, _, _, h => h
  | 20, _, _, h => h
  | 21, _, _, h => h
  | 22, _, _, h => h
  | 23, _, _, h => h
  | 24, _, _, h => h
  | 25, _, _, h => h
  | 26, _, _, h => h
  | 27, _, _, h => h
  | 28, _, _, h => h
  | 29, _, _, h => h
  | 30, _, _, h => h
  | 31, _, _, h => h
  | 32, _, _, h => h
  | 33, _, _, h => h
  | 34, _, _, h => h
  | 35, _, _, h => h
  | 36, _, _, h => h
  | 37, _, _, h => h
  | 38, _, _, h => h
  | 39, _, _, h => h
  | 40, _, _, h => h
  | 41, _, _, h => h
  | 42, _, _, h => h
  | 43, _, _, h => h
  | 44, _, _, h => h
  | _ + 45, _, _, h => h
theorem hF_mQ {cI cL cC : ClassId} {gC : Int32} {gP : Int32} {gT : Nat → Int32} {gR : Nat → Int32} {mm : Int32} {ms : Int32} {mg : Int32} {mL : Nat → Int32} {mQ : Nat → Int32} {mZ : Nat → Int32} {dm : Int32} {ds : Int32} {dg : Int32} {dL : Nat → Int32} {dQ : Nat → Int32} {dZ : Nat → Int32} {om : Int32} {os : Int32} {og : Int32} {oL : Nat → Int32} {oQ : Nat → Int32} {oZ : Nat → Int32} {gB : Int32} {gO : Int32} {xk : Int32} {gE : Int32} {gV : Nat → Int32} {gU : Nat → Int32} {gN : Nat → Int32} {G : Nat} {gW : Nat → Int32} {gA : Nat → Int32} {mQ' : Nat → Int32} {t : Nat → Nat} : ∀ {k : Nat} {e : va_E}, k ≠ 13 → hF cI cL cC gC gP gT gR mm ms mg mL mQ mZ dm ds dg dL dQ dZ om os og oL oQ oZ gB gO xk gE gV gU gN G gW gA t k e → hF cI cL cC gC gP gT gR mm ms mg mL mQ' mZ dm ds dg dL dQ dZ om os og oL oQ oZ gB gO xk gE gV gU gN G gW gA t k e
  | 0, _, _, h => h
  | 1, _, _, h => h
  | 2, _, _, h => h
  | 3, _, _, h => h
  | 4, _, _, h => h
  | 5, _, _, h => h
  | 6, _, _, h => h
  | 7, _, _, h => h
  | 8, _, _, h => h
  | 9, _, _, h => h
  | 10, _, _, h => h
  | 11, _, _, h => h
  | 12, _, _, h => h
  | 13, _, hk, _ => absurd rfl hk
  | 14, _, _, h => h
  | 15, _, _, h => h
  | 16, _, _, h => h
  | 17, _, _, h => h
  | 18, _, _, h => h
  | 19, _, _, h => h
  | 20, _, _, h => h
  | 21, _, _, h => h
  | 22, _, _, h => h
  | 23, _, _, h => h
  | 24, _, _, h => h
  | 25, _, _, h => h
  | 26, _, _, h => h
  | 27, _, _, h => h
  | 28, _, _, h => h
  | 29, _, _, h => h
  | 30, _, _, h => h
  | 31, _, _, h => h
  | 32, _, _, h => h
  | 33, _, _, h => h
  | 34, _, _, h => h
  | 35, _, _, h => h
  | 36, _, _, h => h
  | 37, _, _, h => h
  | 38, _, _, h => h
  | 39, _, _, h => h
  | 40, _, _, h => h
  | 41, _, _, h => h
  | 42, _, _, h => h
  | 43, _, _, h => h
  | 44, _, _, h => h
  | _ + 45, _, _, h => h
theorem hF_mZ {cI cL cC : ClassId} {gC : Int32} {gP : Int32} {gT : Nat → Int32} {gR : Nat → Int32} {mm : Int32} {ms : Int32} {mg : Int32} {mL : Nat → Int32} {mQ : Nat → Int32} {mZ : Nat → Int32} {dm : Int32} {ds : Int32} {dg : Int32} {dL : Nat → Int32} {dQ : Nat → Int32} {dZ : Nat → Int32} {om : Int32} {os : Int32} {og : Int32} {oL : Nat → Int32} {oQ : Nat → Int32} {oZ : Nat → Int32} {gB : Int32} {gO : Int32} {xk : Int32} {gE : Int32} {gV : Nat → Int32} {gU : Nat → Int32} {gN : Nat → Int32} {G : Nat} {gW : Nat → Int32} {gA : Nat → Int32} {mZ' : Nat → Int32} {t : Nat → Nat} : ∀ {k : Nat} {e : va_E}, k ≠ 14 → hF cI cL cC gC gP gT gR mm ms mg mL mQ mZ dm ds dg dL dQ dZ om os og oL oQ oZ gB gO xk gE gV gU gN G gW gA t k e → hF cI cL cC gC gP gT gR mm ms mg mL mQ mZ' dm ds dg dL dQ dZ om os og oL oQ oZ gB gO xk gE gV gU gN G gW gA t k e
  | 0, _, _, h => h
  | 1, _, _, h => h
  | 2, _, _, h => h
  | 3, _, _, h => h
  | 4, _, _, h => h
  | 5, _, _, h => h
  | 6, _, _, h => h
  | 7, _, _, h => h
  | 8, _, _, h => h
  | 9, _, _, h => h
  | 10, _, _, h => h
  | 11, _, _, h => h
  | 12, _, _, h => h
  | 13, _, _, h => h
  | 14, _, hk, _ => absurd rfl hk
  | 15, _, _, h => h
  | 16, _, _, h => h
  | 17, _, _, h => h
  | 18, _, _, h => h
  | 19, _, _, h => h
  | 20, _, _, h => h
  | 21, _, _, h => h
  | 22, _, _, h => h
  | 23, _, _, h => h
  | 24, _, _, h => h
  | 25, _, _, h => h
  | 26, _, _, h => h
  | 27, _, _, h => h
  | 28, _, _, h => h
  | 29, _, _, h => h
  | 30, _, _, h => h
  | 31, _, _, h => h
  | 32, _, _, h => h
  | 33, _, _, h => h
  | 34, _, _, h => h
  | 35, _, _, h => h
  | 36, _, _, h => h
  | 37, _, _, h => h
  | 38, _, _, h => h
  | 39, _, _, h => h
  | 40, _, _, h => h
  | 41, _, _, h => h
  | 42, _, _, h => h
  | 43, _, _, h => h
  | 44, _, _, h => h
  | _ + 45, _, _, h => h
theorem hF_dm {cI cL cC : ClassId} {gC : Int32} {gP : Int32} {gT : Nat → Int32} {gR : Nat → Int32} {mm : Int32} {ms : Int32} {mg : Int32} {mL : Nat → Int32} {mQ : Nat → Int32} {mZ : Nat → Int32} {dm : Int32} {ds : Int32} {dg : Int32} {dL : Nat → Int32} {dQ : Nat → Int32} {dZ : Nat → Int32} {om : Int32} {os : Int32} {og : Int32} {oL : Nat → Int32} {oQ : Nat → Int32} {oZ : Nat → Int32} {gB : Int32} {gO : Int32} {xk : Int32} {gE : Int32} {gV : Nat → Int32} {gU : Nat → Int32} {gN : Nat → Int32} {G : Nat} {gW : Nat → Int32} {gA : Nat → Int32} {dm' : Int32} {t : Nat → Nat} : ∀ {k : Nat} {e : va_E}, k ≠ 37 → hF cI cL cC gC gP gT gR mm ms mg mL mQ mZ dm ds dg dL dQ dZ om os og oL oQ oZ gB gO xk gE gV gU gN G gW gA t k e → hF cI cL cC gC gP gT gR mm ms mg mL mQ mZ dm' ds dg dL dQ dZ om os og oL oQ oZ gB gO xk gE gV gU gN G gW gA t k e
  | 0, _, _, h => h
  | 1, _, _, h => h
  | 2, _, _, h => h
  | 3, _, _, h => h
  | 4, _, _, h => h
  | 5, _, _, h => h
  | 6, _, _, h => h
  | 7, _, _, h => h
  | 8, _, _, h => h
  | 9, _, _, h => h
  | 10, _, _, h => h
  | 11, _, _, h => h
  | 12, _, _, h => h
  | 13, _, _, h => h
  | 14, _, _, h => h
  | 15, _, _, h => h
  | 16, _, _, h => h
  | 17, _, _, h => h
  | 18, _, _, h => h
  | 19, _, _, h => h
  | 20, _, _, h => h
  | 21, _, _, h => h
  | 22, _, _, h => h
  | 23, _, _, h => h
  | 24, _, _, h => h
  | 25, _, _, h => h
  | 26, _, _, h => h
  | 27, _, _, h => h
  | 28, _, _, h => h
  | 29, _, _, h => h
  | 30, _, _, h => h
  | 31, _, _, h => h
  | 32, _, _, h => h
  | 33, _, _, h => h
  | 34, _, _, h => h
  | 35, _, _, h => h
  | 36, _, _, h => h
  | 37, _, hk, _ => absurd rfl hk
  | 38, _, _, h => h
  | 39, _, _, h => h
  | 40, _, _, h => h
  | 41, _, _, h => h
  | 42, _, _, h => h
  | 43, _, _, h => h
  | 44, _, _, h => h
  | _ + 45, _, _, h => h
theorem hF_ds {cI cL cC : ClassId} {gC : Int32} {gP : Int32} {gT : Nat → Int32} {gR : Nat → Int32} {mm : Int32} {ms : Int32} {mg : Int32} {mL : Nat → Int32} {mQ : Nat → Int32} {mZ : Nat → Int32} {dm : Int32} {ds : Int32} {dg : Int32} {dL : Nat → Int32} {dQ : Nat → Int32} {dZ : Nat → Int32} {om : Int32} {os : Int32} {og : Int32} {oL : Nat → Int32} {oQ : Nat → Int32} {oZ : Nat → Int32} {gB : Int32} {gO : Int32} {xk : Int32} {gE : Int32} {gV : Nat → Int32} {gU : Nat → Int32} {gN : Nat → Int32} {G : Nat} {gW : Nat → Int32} {gA : Nat → Int32} {ds' : Int32} {t : Nat → Nat} : ∀ {k : Nat} {e : va_E}, k ≠ 37 → hF cI cL cC gC gP gT gR mm ms mg mL mQ mZ dm ds dg dL dQ dZ om os og oL oQ oZ gB gO xk gE gV gU gN G gW gA t k e → hF cI cL cC gC gP gT gR mm ms mg mL mQ mZ dm ds' dg dL dQ dZ om os og oL oQ oZ gB gO xk gE gV gU gN G gW gA t k e
  | 0, _, _, h => h
  | 1, _, _, h => h
  | 2, _, _, h => h
  | 3, _, _, h => h
  | 4, _, _, h => h
  | 5, _, _, h => h
  | 6, _, _, h => h
  | 7, _, _, h => h
  | 8, _, _, h => h
  | 9, _, _, h => h
  | 10, _, _, h => h
  | 11, _, _, h => h
  | 12, _, _, h => h
  | 13, _, _, h => h
  | 14, _, _, h => h
  | 15, _, _, h => h
  | 16, _, _, h => h
  | 17, _, _, h => h
  | 18, _, _, h => h
  | 19, _, _, h => h
  | 20, _, _, h => h
  | 21, _, _, h => h
  | 22, _, _, h => h
  | 23, _, _, h => h
  | 24, _, _, h => h
  | 25, _, _, h => h
  | 26, _, _, h => h
  | 27, _, _, h => h
  | 28, _, _, h => h
  | 29, _, _, h => h
  | 30, _, _, h => h
  | 31, _, _, h => h
  | 32, _, _, h => h
  | 33, _, _, h => h
  | 34, _, _, h => h
  | 35, _, _, h => h
  | 36, _, _, h => h
  | 37, _, hk, _ => absurd rfl hk
  | 38, _, _, h => h
  | 39, _, _, h => h
  | 40, _, _, h => h
  | 41, _, _, h => h
  | 42, _, _, h => h
  | 43, _, _, h => h
  | 44, _, _, h => h
  | _ + 45, _, _, h => h
theorem hF_dg {cI cL cC : ClassId} {gC : Int32} {gP : Int32} {gT : Nat → Int32} {gR : Nat → Int32} {mm : Int32} {ms : Int32} {mg : Int32} {mL : Nat → Int32} {mQ : Nat → Int32} {mZ : Nat → Int32} {dm : Int32} {ds : Int32} {dg : Int32} {dL : Nat → Int32} {dQ : Nat → Int32} {dZ : Nat → Int32} {om : Int32} {os : Int32} {og : Int32} {oL : Nat → Int32} {oQ : Nat → Int32} {oZ : Nat → Int32} {gB : Int32} {gO : Int32} {xk : Int32} {gE : Int32} {gV : Nat → Int32} {gU : Nat → Int32} {gN : Nat → Int32} {G : Nat} {gW : Nat → Int32} {gA : Nat → Int32} {dg' : Int32} {t : Nat → Nat} : ∀ {k : Nat} {e : va_E}, k ≠ 37 → hF cI cL cC gC gP gT gR mm ms mg mL mQ mZ dm ds dg dL dQ dZ om os og oL oQ oZ gB gO xk gE gV gU gN G gW gA t k e → hF cI cL cC gC gP gT gR mm ms mg mL mQ mZ dm ds dg' dL dQ dZ om os og oL oQ oZ gB gO xk gE gV gU gN G gW gA t k e
  | 0, _, _, h => h
  | 1, _, _, h => h
  | 2, _, _, h => h
  | 3, _, _, h => h
  | 4, _, _, h => h
  | 5, _, _, h => h
  | 6, _, _, h => h
  | 7, _, _, h => h
  | 8, _, _, h => h
  | 9, _, _, h => h
  | 10, _, _, h => h
  | 11, _, _, h => h
  | 12, _, _, h => h
  | 13, _, _, h => h
  | 14, _, _, h => h
  | 15, _, _, h => h
  | 16, _, _, h => h
  | 17, _, _, h => h
  | 18, _, _, h => h
  | 19, _, _, h => h
  | 20, _, _, h => h
  | 21, _, _, h => h
  | 22, _, _, h => h
  | 23, _, _, h => h
  | 24, _, _, h => h
  | 25, _, _, h => h
  | 26, _, _, h => h
  | 27, _, _, h => h
  | 28, _, _, h => h
  | 29, _, _, h => h
  | 30, _, _, h => h
  | 31, _, _, h => h
  | 32, _, _, h => h
  | 33, _, _, h => h
  | 34, _, _, h => h
  | 35, _, _, h => h
  | 36, _, _, h => h
  | 37, _, hk, _ => absurd rfl hk
  | 38, _, _, h => h
  | 39, _, _, h => h
  | 40, _, _, h => h
  | 41, _, _, h => h
  | 42, _, _, h => h
  | 43, _, _, h => h
  | 44, _, _, h => h
  | _ + 45, _, _, h => h
theorem hF_dL {cI cL cC : ClassId} {gC : Int32} {gP : Int32} {gT : Nat → Int32} {gR : Nat → Int32} {mm : Int32} {ms : Int32} {mg : Int32} {mL : Nat → Int32} {mQ : Nat → Int32} {mZ : Nat → Int32} {dm : Int32} {ds : Int32} {dg : Int32} {dL : Nat → Int32} {dQ : Nat → Int32} {dZ : Nat → Int32} {om : Int32} {os : Int32} {og : Int32} {oL : Nat → Int32} {oQ : Nat → Int32} {oZ : Nat → Int32} {gB : Int32} {gO : Int32} {xk : Int32} {gE : Int32} {gV : Nat → Int32} {gU : Nat → Int32} {gN : Nat → Int32} {G : Nat} {gW : Nat → Int32} {gA : Nat → Int32} {dL' : Nat → Int32} {t : Nat → Nat} : ∀ {k : Nat} {e : va_E}, k ≠ 38 → hF cI cL cC gC gP gT gR mm ms mg mL mQ mZ dm ds dg dL dQ dZ om os og oL oQ oZ gB gO xk gE gV gU gN G gW gA t k e → hF cI cL cC gC gP gT gR mm ms mg mL mQ mZ dm ds dg dL' dQ dZ om os og oL oQ oZ gB gO xk gE gV gU gN G gW gA t k e
  | 0, _, _, h => h
  | 1, _, _, h => h
  | 2, _, _, h => h
  | 3, _, _, h => h
  | 4, _, _, h => h
  | 5, _, _, h => h
  | 6, _, _, h => h
  | 7, _, _, h => h
  | 8, _, _, h => h
  | 9, _, _, h => h
  | 10, _, _, h => h
  | 11, _, _, h => h
  | 12, _, _, h => h
  | 13, _, _, h => h
  | 14, _, _, h => h
  | 15, _, _, h => h
  | 16, _, _, h => h
  | 17, _, _, h => h
  | 18, _, _, h => h
  | 19, _, _, h => h
  | 20, _, _, h => h
  | 21, _, _, h => h
  | 22, _, _, h => h
  | 23, _, _, h => h
  | 24, _, _, h => h
  | 25, _, _, h => h
  | 26, _, _, h => h
  | 27, _, _, h => h
  | 28, _, _, h => h
  | 29, _, _, h => h
  | 30, _, _, h => h
  | 31, _, _, h => h
  | 32, _, _, h => h
  | 33, _, _, h => h
  | 34, _, _, h => h
  | 35, _, _, h => h
  | 36, _, _, h => h
  | 37, _, _, h => h
  | 38, _, hk, _ => absurd rfl hk
  | 39, _, _, h => h
  | 40, _, _, h => h
  | 41, _, _, h => h
  | 42, _, _, h => h
  | 43, _, _, h => h
  | 44, _, _, h => h
  | _ + 45, _, _, h => h
theorem hF_dQ {cI cL cC : ClassId} {gC : Int32} {gP : Int32} {gT : Nat → Int32} {gR : Nat → Int32} {mm : Int32} {ms : Int32} {mg : Int32} {mL : Nat → Int32} {mQ : Nat → Int32} {mZ : Nat → Int32} {dm : Int32} {ds : Int32} {dg : Int32} {dL : Nat → Int32} {dQ : Nat → Int32} {dZ : Nat → Int32} {om : Int32} {os : Int32} {og : Int32} {oL : Nat → Int32} {oQ : Nat → Int32} {oZ : Nat → Int32} {gB : Int32} {gO : Int32} {xk : Int32} {gE : Int32} {gV : Nat → Int32} {gU : Nat → Int32} {gN : Nat → Int32} {G : Nat} {gW : Nat → Int32} {gA : Nat → Int32} {dQ' : Nat → Int32} {t : Nat → Nat} : ∀ {k : Nat} {e : va_E}, k ≠ 39 → hF cI cL cC gC gP gT gR mm ms mg mL mQ mZ dm ds dg dL dQ dZ om os og oL oQ oZ gB gO xk gE gV gU gN G gW gA t k e → hF cI cL cC gC gP gT gR mm ms mg mL mQ mZ dm ds dg dL dQ' dZ om os og oL oQ oZ gB gO xk gE gV gU gN G gW gA t k e
  | 0, _, _, h => h
  | 1, _, _, h => h
  | 2, _, _, h => h
  | 3, _, _, h => h
  | 4, _, _, h => h
  | 5, _, _, h => h
  | 6, _, _, h => h
  | 7, _, _, h => h
  | 8, _, _, h => h
  | 9, _, _, h => h
  | 10, _, _, h => h
  | 11, _, _, h => h
  | 12, _, _, h => h
  | 13, _, _, h => h
  | 14, _, _, h => h
  | 15, _, _, h => h
  | 16, _, _, h => h
  | 17, _, _, h => h
  | 18, _, _, h => h
  | 19, _, _, h => h
  | 20, _, _, h => h
  | 21, _, _, h => h
  | 22, _, _, h => h
  | 23, _, _, h => h
  | 24, _, _, h => h
  | 25, _, _, h => h
  | 26, _, _, h => h
  | 27, _, _, h => h
  | 28, _, _, h => h
  | 29, _, _, h => h
  | 30, _, _, h => h
  | 31, _, _, h => h
  | 32, _, _, h => h
  | 33, _, _, h => h
  | 34, _, _, h => h
  | 35, _, _, h => h
  | 36, _, _, h => h
  | 37, _, _, h => h
  | 38, _, _, h => h
  | 39, _, hk, _ => absurd rfl hk
  | 40, _, _, h => h
  | 41, _, _, h => h
  | 42, _, _, h => h
  | 43, _, _, h => h
  | 44, _, _, h => h
  | _ + 45, _, _, h => h
theorem hF_dZ {cI cL cC : ClassId} {gC : Int32} {gP : Int32} {gT : Nat → Int32} {gR : Nat → Int32} {mm : Int32} {ms : Int32} {mg : Int32} {mL : Nat → Int32} {mQ : Nat → Int32} {mZ : Nat → Int32} {dm : Int32} {ds : Int32} {dg : Int32} {dL : Nat → Int32} {dQ : Nat → Int32} {dZ : Nat → Int32} {om : Int32} {os : Int32} {og : Int32} {oL : Nat → Int32} {oQ : Nat → Int32} {oZ : Nat → Int32} {gB : Int32} {gO : Int32} {xk : Int32} {gE : Int32} {gV : Nat → Int32} {gU : Nat → Int32} {gN : Nat → Int32} {G : Nat} {gW : Nat → Int32} {gA : Nat → Int32} {dZ' : Nat → Int32} {t : Nat → Nat} : ∀ {k : Nat} {e : va_E}, k ≠ 40 → hF cI cL cC gC gP gT gR mm ms mg mL mQ mZ dm ds dg dL dQ dZ om os og oL oQ oZ gB gO xk gE gV gU gN G gW gA t k e → hF cI cL cC gC gP gT gR mm ms mg mL mQ mZ dm ds dg dL dQ dZ' om os og oL oQ oZ gB gO xk gE gV gU gN G gW gA t k e
  | 0, _, _, h => h
  | 1, _, _, h => h
  | 2, _, _, h => h
  | 3, _, _, h => h
  | 4, _, _, h => h
  | 5, _, _, h => h
  | 6, _, _, h => h
  | 7, _, _, h => h
  | 8, _, _, h => h
  | 9, _, _, h => h
  | 10, _, _, h => h
  | 11, _, _, h => h
  | 12, _, _, h => h
  | 13, _, _, h => h
  | 14, _, _, h => h
  | 15, _, _, h => h
  | 16, _, _, h => h
  | 17, _, _, h => h
  | 18, _, _, h => h
  | 19, _, _, h => h
  | 20, _, _, h => h
  | 21, _, _, h => h
  | 22, _, _, h => h
  | 23, _, _, h => h
  | 24, _, _, h => h
  | 25, _, _, h => h
  | 26, _, _, h => h
  | 27, _, _, h => h
  | 28, _, _, h => h
  | 29, _, _, h => h
  | 30, _, _, h => h
  | 31, _, _, h => h
  | 32, _, _, h => h
  | 33, _, _, h => h
  | 34, _, _, h => h
  | 35, _, _, h => h
  | 36, _, _, h => h
  | 37, _, _, h => h
  | 38, _, _, h => h
  | 39, _, _, h => h
  | 40, _, hk, _ => absurd rfl hk
  | 41, _, _, h => h
  | 42, _, _, h => h
  | 43, _, _, h => h
  | 44, _, _, h => h
  | _ + 45, _, _, h => h
theorem hF_om {cI cL cC : ClassId} {gC : Int32} {gP : Int32} {gT : Nat → Int32} {gR : Nat → Int32} {mm : Int32} {ms : Int32} {mg : Int32} {mL : Nat → Int32} {mQ : Nat → Int32} {mZ : Nat → Int32} {dm : Int32} {ds : Int32} {dg : Int32} {dL : Nat → Int32} {dQ : Nat → Int32} {dZ : Nat → Int32} {om : Int32} {os : Int32} {og : Int32} {oL : Nat → Int32} {oQ : Nat → Int32} {oZ : Nat → Int32} {gB : Int32} {gO : Int32} {xk : Int32} {gE : Int32} {gV : Nat → Int32} {gU : Nat → Int32} {gN : Nat → Int32} {G : Nat} {gW : Nat → Int32} {gA : Nat → Int32} {om' : Int32} {t : Nat → Nat} : ∀ {k : Nat} {e : va_E}, k ≠ 41 → hF cI cL cC gC gP gT gR mm ms mg mL mQ mZ dm ds dg dL dQ dZ om os og oL oQ oZ gB gO xk gE gV gU gN G gW gA t k e → hF cI cL cC gC gP gT gR mm ms mg mL mQ mZ dm ds dg dL dQ dZ om' os og oL oQ oZ gB gO xk gE gV gU gN G gW gA t k e
  | 0, _, _, h => h
  | 1, _, _, h => h
  | 2, _, _, h => h
  | 3, _, _, h => h
  | 4, _, _, h => h
  | 5, _, _, h => h
  | 6, _, _, h => h
  | 7, _, _, h => h
  | 8, _, _, h => h
  | 9, _, _, h => h
  | 10, _, _, h => h
  | 11, _, _, h => h
  | 12, _, _, h => h
  | 13, _, _, h => h
  | 14, _, _, h => h
  | 15, _, _, h => h
  | 16, _, _, h => h
  | 17, _, _, h => h
  | 18, _, _, h => h
  | 19, _, _, h => h
  | 20, _, _, h => h
  | 21, _, _, h => h
  | 22, _, _, h => h
  | 23, _, _, h => h
  | 24, _, _, h => h
  | 25, _, _, h => h
  | 26, _, _, h => h
  | 27, _, _, h => h
  | 28, _, _, h => h
  | 29, _, _, h => h
  | 30, _, _, h => h
  | 31, _, _, h => h
  | 32, _, _, h => h
  | 33, _, _, h => h
  | 34, _, _, h => h
  | 35, _, _, h => h
  | 36, _, _, h => h
  | 37, _, _, h => h
  | 38, _, _, h => h
  | 39, _, _, h => h
  | 40, _, _, h => h
  | 41, _, hk, _ => absurd rfl hk
  | 42, _, _, h => h
  | 43, _, _, h => h
  | 44, _, _, h => h
  | _ + 45, _, _, h => h
theorem hF_os {cI cL cC : ClassId} {gC : Int32} {gP : Int32} {gT : Nat → Int32} {gR : Nat → Int32} {mm : Int32} {ms : Int32} {mg : Int32} {mL : Nat → Int32} {mQ : Nat → Int32} {mZ : Nat → Int32} {dm : Int32} {ds : Int32} {dg : Int32} {dL : Nat → Int32} {dQ : Nat → Int32} {dZ : Nat → Int32} {om : Int32} {os : Int32} {og : Int32} {oL : Nat → Int32} {oQ : Nat → Int32} {oZ : Nat → Int32} {gB : Int32} {gO : Int32} {xk : Int32} {gE : Int32} {gV : Nat → Int32} {gU : Nat → Int32} {gN : Nat → Int32} {G : Nat} {gW : Nat → Int32} {gA : Nat → Int32} {os' : Int32} {t : Nat → Nat} : ∀ {k : Nat} {e : va_E}, k ≠ 41 → hF cI cL cC gC gP gT gR mm ms mg mL mQ mZ dm ds dg dL dQ dZ om os og oL oQ oZ gB gO xk gE gV gU gN G gW gA t k e → hF cI cL cC gC gP gT gR mm ms mg mL mQ mZ dm ds dg dL dQ dZ om os' og oL oQ oZ gB gO xk gE gV gU gN G gW gA t k e
  | 0, _, _, h => h
  | 1, _, _, h => h
  | 2, _, _, h => h
  | 3, _, _, h => h
  | 4, _, _, h => h
  | 5, _, _, h => h
  | 6, _, _, h => h
  | 7, _, _, h => h
  | 8, _, _, h => h
  | 9, _, _, h => h
  | 10, _, _, h => h
  | 11, _, _, h => h
  | 12, _, _, h => h
  | 13, _, _, h => h
  | 14, _, _, h => h
  | 15, _, _, h => h
  | 16, _, _, h => h
  | 17, _, _, h => h
  | 18, _, _, h => h
  | 19, _, _, h => h
  | 20, _, _, h => h
  | 21, _, _, h => h
  | 22, _, _, h => h
  | 23, _, _, h => h
  | 24, _, _, h => h
  | 25, _, _, h => h
  | 26, _, _, h => h
  | 27, _, _, h => h
  | 28, _, _, h => h
  | 29, _, _, h => h
  | 30, _, _, h => h
  | 31, _, _, h => h
  | 32, _, _, h => h
  | 33, _, _, h => h
  | 34, _, _, h => h
  | 35, _, _, h => h
  | 36, _, _, h => h
  | 37, _, _, h => h
  | 38, _, _, h => h
  | 39, _, _, h => h
  | 40, _, _, h => h
  | 41, _, hk, _ => absurd rfl hk
  | 42, _, _, h => h
  | 43, _, _, h => h
  | 44, _, _, h => h
  | _ + 45, _, _, h => h
theorem hF_og {cI cL cC : ClassId} {gC : Int32} {gP : Int32} {gT : Nat → Int32} {gR : Nat → Int32} {mm : Int32} {ms : Int32} {mg : Int32} {mL : Nat → Int32} {mQ : Nat → Int32} {mZ : Nat → Int32} {dm : Int32} {ds : Int32} {dg : Int32} {dL : Nat → Int32} {dQ : Nat → Int32} {dZ : Nat → Int32} {om : Int32} {os : Int32} {og : Int32} {oL : Nat → Int32} {oQ : Nat → Int32} {oZ : Nat → Int32} {gB : Int32} {gO : Int32} {xk : Int32} {gE : Int32} {gV : Nat → Int32} {gU : Nat → Int32} {gN : Nat → Int32} {G : Nat} {gW : Nat → Int32} {gA : Nat → Int32} {og' : Int32} {t : Nat → Nat} : ∀ {k : Nat} {e : va_E}, k ≠ 41 → hF cI cL cC gC gP gT gR mm ms mg mL mQ mZ dm ds dg dL dQ dZ om os og oL oQ oZ gB gO xk gE gV gU gN G gW gA t k e → hF cI cL cC gC gP gT gR mm ms mg mL mQ mZ dm ds dg dL dQ dZ om os og' oL oQ oZ gB gO xk gE gV gU gN G gW gA t k e
  | 0, _, _, h => h
  | 1, _, _, h => h
  | 2, _, _, h => h
  | 3, _, _, h => h
  | 4, _, _, h => h
  | 5, _, _, h => h
  | 6, _, _, h => h
  | 7, _, _, h => h
  | 8, _, _, h => h
  | 9, _, _, h => h
  | 10, _, _, h => h
  | 11, _, _, h => h
  | 12, _, _, h => h
  | 13, _, _, h => h
  | 14, _, _, h => h
  | 15, _, _, h => h
  | 16, _, _, h => h
  | 17, _, _, h => h
  | 18, _, _, h => h
  | 19, _, _, h => h
  | 20, _, _, h => h
  | 21, _, _, h => h
  | 22, _, _, h => h
  | 23, _, _, h => h
  | 24, _, _, h => h
  | 25, _, _, h => h
  | 26, _, _, h => h
  | 27, _, _, h => h
  | 28, _, _, h => h
  | 29, _, _, h => h
  | 30, _, _, h => h
  | 31, _, _, h => h
  | 32, _, _, h => h
  | 33, _, _, h => h
  | 34, _, _, h => h
  | 35, _, _, h => h
  | 36, _, _, h => h
  | 37, _, _, h => h
  | 38, _, _, h => h
  | 39, _, _, h => h
  | 40, _, _, h => h
  | 41, _, hk, _ => absurd rfl hk
  | 42, _, _, h => h
  | 43, _, _, h => h
  | 44, _, _, h => h
  | _ + 45, _, _, h => h
theorem hF_oL {cI cL cC : ClassId} {gC : Int32} {gP : Int32} {gT : Nat → Int32} {gR : Nat → Int32} {mm : Int32} {ms : Int32} {mg : Int32} {mL : Nat → Int32} {mQ : Nat → Int32} {mZ : Nat → Int32} {dm : Int32} {ds : Int32} {dg : Int32} {dL : Nat → Int32} {dQ : Nat → Int32} {dZ : Nat → Int32} {om : Int32} {os : Int32} {og : Int32} {oL : Nat → Int32} {oQ : Nat → Int32} {oZ : Nat → Int32} {gB : Int32} {gO : Int32} {xk : Int32} {gE : Int32} {gV : Nat → Int32} {gU : Nat → Int32} {gN : Nat → Int32} {G : Nat} {gW : Nat → Int32} {gA : Nat → Int32} {oL' : Nat → Int32} {t : Nat → Nat} : ∀ {k : Nat} {e : va_E}, k ≠ 42 → hF cI cL cC gC gP gT gR mm ms mg mL mQ mZ dm ds dg dL dQ dZ om os og oL oQ oZ gB gO xk gE gV gU gN G gW gA t k e → hF cI cL cC gC gP gT gR mm ms mg mL mQ mZ dm ds dg dL dQ dZ om os og oL' oQ oZ gB gO xk gE gV gU gN G gW gA t k e
  | 0, _, _, h => h
  | 1, _, _, h => h
  | 2, _, _, h => h
  | 3, _, _, h => h
  | 4, _, _, h => h
  | 5, _, _, h => h
  | 6, _, _, h => h
  | 7, _, _, h => h
  | 8, _, _, h => h
  | 9, _, _, h => h
  | 10, _, _, h => h
  | 11, _, _, h => h
  | 12, _, _, h => h
  | 13, _, _, h => h
  | 14, _, _, h => h
  | 15, _, _, h => h
  | 16, _, _, h => h
  | 17, _, _, h => h
  | 18, _, _, h => h
  | 19, _, _, h => h
  | 20, _, _, h => h
  | 21, _, _, h => h
  | 22, _, _, h => h
  | 23, _, _, h => h
  | 24, _, _, h => h
  | 25, _, _, h => h
  | 26, _, _, h => h
  | 27, _, _, h => h
  | 28, _, _, h => h
  | 29, _, _, h => h
  | 30, _, _, h => h
  | 31, _, _, h => h
  | 32, _, _, h => h
  | 33, _, _, h => h
  | 34, _, _, h => h
  | 35, _, _, h => h
  | 36, _, _, h => h
  | 37, _, _, h => h
  | 38, _, _, h => h
  | 39, _, _, h => h
  | 40, _, _, h => h
  | 41, _, _, h => h
  | 42, _, hk, _ => absurd rfl hk
  | 43, _, _, h => h
  | 44, _, _, h => h
  | _ + 45, _, _, h => h
theorem hF_oQ {cI cL cC : ClassId} {gC : Int32} {gP : Int32} {gT : Nat → Int32} {gR : Nat → Int32} {mm : Int32} {ms : Int32} {mg : Int32} {mL : Nat → Int32} {mQ : Nat → Int32} {mZ : Nat → Int32} {dm : Int32} {ds : Int32} {dg : Int32} {dL : Nat → Int32} {dQ : Nat → Int32} {dZ : Nat → Int32} {om : Int32} {os : Int32} {og : Int32} {oL : Nat → Int32} {oQ : Nat → Int32} {oZ : Nat → Int32} {gB : Int32} {gO : Int32} {xk : Int32} {gE : Int32} {gV : Nat → Int32} {gU : Nat → Int32} {gN : Nat → Int32} {G : Nat} {gW : Nat → Int32} {gA : Nat → Int32} {oQ' : Nat → Int32} {t : Nat → Nat} : ∀ {k : Nat} {e : va_E}, k ≠ 43 → hF cI cL cC gC gP gT gR mm ms mg mL mQ mZ dm ds dg dL dQ dZ om os og oL oQ oZ gB gO xk gE gV gU gN G gW gA t k e → hF cI cL cC gC gP gT gR mm ms mg mL mQ mZ dm ds dg dL dQ dZ om os og oL oQ' oZ gB gO xk gE gV gU gN G gW gA t k e
  | 0, _, _, h => h
  | 1, _, _, h => h
  | 2, _, _, h => h
  | 3, _, _, h => h
  | 4, _, _, h => h
  | 5, _, _, h => h
  | 6, _, _, h => h
  | 7, _, _, h => h
  | 8, _, _, h => h
  | 9, _, _, h => h
  | 10, _, _, h => h
  | 11, _, _, h => h
  | 12, _, _, h => h
  | 13, _, _, h => h
  | 14, _, _, h => h
  | 15, _, _, h => h
  | 16, _, _, h => h
  | 17, _, _, h => h
  | 18, _, _, h => h
  | 19, _, _, h => h
  | 20, _, _, h => h
  | 21, _, _, h => h
  | 22, _, _, h => h
  | 23, _, _, h => h
  | 24, _, _, h => h
  | 25, _, _, h => h
  | 26, _, _, h => h
  | 27, _, _, h => h
  | 28, _, _, h => h
  | 29, _, _, h => h
  | 30, _, _, h => h
  | 31, _, _, h => h
  | 32, _, _, h => h
  | 33, _, _, h => h
  | 34, _, _, h => h
  | 35, _, _, h => h
  | 36, _, _, h => h
  | 37, _, _, h => h
  | 38, _, _, h => h
  | 39, _, _, h => h
  | 40, _, _, h => h
  | 41, _, _, h => h
  | 42, _, _, h => h
  | 43, _, hk, _ => absurd rfl hk
  | 44, _, _, h => h
  | _ + 45, _, _, h => h
theorem hF_oZ {cI cL cC : ClassId} {gC : Int32} {gP : Int32} {gT : Nat → Int32} {gR : Nat → Int32} {mm : Int32} {ms : Int32} {mg : Int32} {mL : Nat → Int32} {mQ : Nat → Int32} {mZ : Nat → Int32} {dm : Int32} {ds : Int32} {dg : Int32} {dL : Nat → Int32} {dQ : Nat → Int32} {dZ : Nat → Int32} {om : Int32} {os : Int32} {og : Int32} {oL : Nat → Int32} {oQ : Nat → Int32} {oZ : Nat → Int32} {gB : Int32} {gO : Int32} {xk : Int32} {gE : Int32} {gV : Nat → Int32} {gU : Nat → Int32} {gN : Nat → Int32} {G : Nat} {gW : Nat → Int32} {gA : Nat → Int32} {oZ' : Nat → Int32} {t : Nat → Nat} : ∀ {k : Nat} {e : va_E}, k ≠ 44 → hF cI cL cC gC gP gT gR mm ms mg mL mQ mZ dm ds dg dL dQ dZ om os og oL oQ oZ gB gO xk gE gV gU gN G gW gA t k e → hF cI cL cC gC gP gT gR mm ms mg mL mQ mZ dm ds dg dL dQ dZ om os og oL oQ oZ' gB gO xk gE gV gU gN G gW gA t k e
  | 0, _, _, h => h
  | 1, _, _, h => h
  | 2, _, _, h => h
  | 3, _, _, h => h
  | 4, _, _, h => h
  | 5, _, _, h => h
  | 6, _, _, h => h
  | 7, _, _, h => h
  | 8, _, _, h => h
  | 9, _, _, h => h
  | 10, _, _, h => h
  | 11, _, _, h => h
  | 12, _, _, h => h
  | 13, _, _, h => h
  | 14, _, _, h => h
  | 15, _, _, h => h
  | 16, _, _, h => h
  | 17, _, _, h => h
  | 18, _, _, h => h
  | 19, _, _, h => h
  | 20, _, _, h => h
  | 21, _, _, h => h
  | 22, _, _, h => h
  | 23, _, _, h => h
  | 24, _, _, h => h
  | 25, _, _, h => h
  | 26, _, _, h => h
  | 27, _, _, h => h
  | 28, _, _, h => h
  | 29, _, _, h => h
  | 30, _, _, h => h
  | 31, _, _, h => h
  | 32, _, _, h => h
  | 33, _, _, h => h
  | 34, _, _, h => h
  | 35, _, _, h => h
  | 36, _, _, h => h
  | 37, _, _, h => h
  | 38, _, _, h => h
  | 39, _, _, h => h
  | 40, _, _, h => h
  | 41, _, _, h => h
  | 42, _, _, h => h
  | 43, _, _, h => h
  | 44, _, hk, _ => absurd rfl hk
  | _ + 45, _, _, h => h
theorem hF_gB {cI cL cC : ClassId} {gC : Int32} {gP : Int32} {gT : Nat → Int32} {gR : Nat → Int32} {mm : Int32} {ms : Int32} {mg : Int32} {mL : Nat → Int32} {mQ : Nat → Int32} {mZ : Nat → Int32} {dm : Int32} {ds : Int32} {dg : Int32} {dL : Nat → Int32} {dQ : Nat → Int32} {dZ : Nat → Int32} {om : Int32} {os : Int32} {og : Int32} {oL : Nat → Int32} {oQ : Nat → Int32} {oZ : Nat → Int32} {gB : Int32} {gO : Int32} {xk : Int32} {gE : Int32} {gV : Nat → Int32} {gU : Nat → Int32} {gN : Nat → Int32} {G : Nat} {gW : Nat → Int32} {gA : Nat → Int32} {gB' : Int32} {t : Nat → Nat} : ∀ {k : Nat} {e : va_E}, k ≠ 1 → hF cI cL cC gC gP gT gR mm ms mg mL mQ mZ dm ds dg dL dQ dZ om os og oL oQ oZ gB gO xk gE gV gU gN G gW gA t k e → hF cI cL cC gC gP gT gR mm ms mg mL mQ mZ dm ds dg dL dQ dZ om os og oL oQ oZ gB' gO xk gE gV gU gN G gW gA t k e
  | 0, _, _, h => h
  | 1, _, hk, _ => absurd rfl hk
  | 2, _, _, h => h
  | 3, _, _, h => h
  | 4, _, _, h => h
  | 5, _, _, h => h
  | 6, _, _, h => h
  | 7, _, _, h => h
  | 8, _, _, h => h
  | 9, _, _, h => h
  | 10, _, _, h => h
  | 11, _, _, h => h
  | 12, _, _, h => h
  | 13, _, _, h => h
  | 14, _, _, h => h
  | 15, _, _, h => h
  | 16, _, _, h => h
  | 17, _, _, h => h
  | 18, _, _, h => h
  | 19, _, _, h => h
  | 20, _, _, h => h
  | 21, _, _, h => h
  | 22, _, _, h => h
  | 23, _, _, h => h
  | 24, _, _, h => h
  | 25, _, _, h => h
  | 26, _, _, h => h
  | 27, _, _, h => h
  | 28, _, _, h => h
  | 29, _, _, h => h
  | 30, _, _, h => h
  | 31, _, _, h => h
  | 32, _, _, h => h
  | 33, _, _, h => h
  | 34, _, _, h => h
  | 35, _, _, h => h
  | 36, _, _, h => h
  | 37, _, _, h => h
  | 38, _, _, h => h
  | 39, _, _, h => h
  | 40, _, _, h => h
  | 41, _, _, h => h
  | 42, _, _, h => h
  | 43, _, _, h => h
  | 44, _, _, h => h
  | _ + 45, _, _, h => h
theorem hF_gO {cI cL cC : ClassId} {gC : Int32} {gP : Int32} {gT : Nat → Int32} {gR : Nat → Int32} {mm : Int32} {ms : Int32} {mg : Int32} {mL : Nat → Int32} {mQ : Nat → Int32} {mZ : Nat → Int32} {dm : Int32} {ds : Int32} {dg : Int32} {dL : Nat → Int32} {dQ : Nat → Int32} {dZ : Nat → Int32} {om : Int32} {os : Int32} {og : Int32} {oL : Nat → Int32} {oQ : Nat → Int32} {oZ : Nat → Int32} {gB : Int32} {gO : Int32} {xk : Int32} {gE : Int32} {gV : Nat → Int32} {gU : Nat → Int32} {gN : Nat → Int32} {G : Nat} {gW : Nat → Int32} {gA : Nat → Int32} {gO' : Int32} {t : Nat → Nat} : ∀ {k : Nat} {e : va_E}, k ≠ 1 → hF cI cL cC gC gP gT gR mm ms mg mL mQ mZ dm ds dg dL dQ dZ om os og oL oQ oZ gB gO xk gE gV gU gN G gW gA t k e → hF cI cL cC gC gP gT gR mm ms mg mL mQ mZ dm ds dg dL dQ dZ om os og oL oQ oZ gB gO' xk gE gV gU gN G gW gA t k e
  | 0, _, _, h => h
  | 1, _, hk, _ => absurd rfl hk
  | 2, _, _, h => h
  | 3, _, _, h => h
  | 4, _, _, h => h
  | 5, _, _, h => h
  | 6, _, _, h => h
  | 7, _, _, h => h
  | 8, _, _, h => h
  | 9, _, _, h => h
  | 10, _, _, h => h
  | 11, _, _, h => h
  | 12, _, _, h => h
  | 13, _, _, h => h
  | 14, _, _, h => h
  | 15, _, _, h => h
  | 16, _, _, h => h
  | 17, _, _, h => h
  | 18, _, _, h => h
  | 19, _, _, h => h
  | 20, _, _, h => h
  | 21, _, _, h => h
  | 22, _, _, h => h
  | 23, _, _, h => h
  | 24, _, _, h => h
  | 25, _, _, h => h
  | 26, _, _, h => h
  | 27, _, _, h => h
  | 28, _, _, h => h
  | 29, _, _, h => h
  | 30, _, _, h => h
  | 31, _, _, h => h
  | 32, _, _, h => h
  | 33, _, _, h => h
  | 34, _, _, h => h
  | 35, _, _, h => h
  | 36, _, _, h => h
  | 37, _, _, h => h
  | 38, _, _, h => h
  | 39, _, _, h => h
  | 40, _, _, h => h
  | 41, _, _, h => h
  | 42, _, _, h => h
  | 43, _, _, h => h
  | 44, _, _, h => h
  | _ + 45, _, _, h => h
theorem hF_xk {cI cL cC : ClassId} {gC : Int32} {gP : Int32} {gT : Nat → Int32} {gR : Nat → Int32} {mm : Int32} {ms : Int32} {mg : Int32} {mL : Nat → Int32} {mQ : Nat → Int32} {mZ : Nat → Int32} {dm : Int32} {ds : Int32} {dg : Int32} {dL : Nat → Int32} {dQ : Nat → Int32} {dZ : Nat → Int32} {om : Int32} {os : Int32} {og : Int32} {oL : Nat → Int32} {oQ : Nat → Int32} {oZ : Nat → Int32} {gB : Int32} {gO : Int32} {xk : Int32} {gE : Int32} {gV : Nat → Int32} {gU : Nat → Int32} {gN : Nat → Int32} {G : Nat} {gW : Nat → Int32} {gA : Nat → Int32} {xk' : Int32} {t : Nat → Nat} : ∀ {k : Nat} {e : va_E}, k ≠ 1 → hF cI cL cC gC gP gT gR mm ms mg mL mQ mZ dm ds dg dL dQ dZ om os og oL oQ oZ gB gO xk gE gV gU gN G gW gA t k e → hF cI cL cC gC gP gT gR mm ms mg mL mQ mZ dm ds dg dL dQ dZ om os og oL oQ oZ gB gO xk' gE gV gU gN G gW gA t k e
  | 0, _, _, h => h
  | 1, _, hk, _ => absurd rfl hk
  | 2, _, _, h => h
  | 3, _, _, h => h
  | 4, _, _, h => h
  | 5, _, _, h => h
  | 6, _, _, h => h
  | 7, _, _, h => h
  | 8, _, _, h => h
  | 9, _, _, h => h
  | 10, _, _, h => h
  | 11, _, _, h => h
  | 12, _, _, h => h
  | 13, _, _, h => h
  | 14, _, _, h => h
  | 15, _, _, h => h
  | 16, _, _, h => h
  | 17, _, _, h => h
  | 18, _, _, h => h
  | 19, _, _, h => h
  | 20, _, _, h => h
  | 21, _, _, h => h
  | 22, _, _, h => h
  | 23, _, _, h => h
  | 24, _, _, h => h
  | 25, _, _, h => h
  | 26, _, _, h => h
  | 27, _, _, h => h
  | 28, _, _, h => h
  | 29, _, _, h => h
  | 30, _, _, h => h
  | 31, _, _, h => h
  | 32, _, _, h => h
  | 33, _, _, h => h
  | 34, _, _, h => h
  | 35, _, _, h => h
  | 36, _, _, h => h
  | 37, _, _, h => h
  | 38, _, _, h => h
  | 39, _, _, h => h
  | 40, _, _, h => h
  | 41, _, _, h => h
  | 42, _, _, h => h
  | 43, _, _, h => h
  | 44, _, _, h => h
  | _ + 45, _, _, h => h
theorem hF_gE {cI cL cC : ClassId} {gC : Int32} {gP : Int32} {gT : Nat → Int32} {gR : Nat → Int32} {mm : Int32} {ms : Int32} {mg : Int32} {mL : Nat → Int32} {mQ : Nat → Int32} {mZ : Nat → Int32} {dm : Int32} {ds : Int32} {dg : Int32} {dL : Nat → Int32} {dQ : Nat → Int32} {dZ : Nat → Int32} {om : Int32} {os : Int32} {og : Int32} {oL : Nat → Int32} {oQ : Nat → Int32} {oZ : Nat → Int32} {gB : Int32} {gO : Int32} {xk : Int32} {gE : Int32} {gV : Nat → Int32} {gU : Nat → Int32} {gN : Nat → Int32} {G : Nat} {gW : Nat → Int32} {gA : Nat → Int32} {gE' : Int32} {t : Nat → Nat} : ∀ {k : Nat} {e : va_E}, k ≠ 6 → hF cI cL cC gC gP gT gR mm ms mg mL mQ mZ dm ds dg dL dQ dZ om os og oL oQ oZ gB gO xk gE gV gU gN G gW gA t k e → hF cI cL cC gC gP gT gR mm ms mg mL mQ mZ dm ds dg dL dQ dZ om os og oL oQ oZ gB gO xk gE' gV gU gN G gW gA t k e
  | 0, _, _, h => h
  | 1, _, _, h => h
  | 2, _, _, h => h
  | 3, _, _, h => h
  | 4, _, _, h => h
  | 5, _, _, h => h
  | 6, _, hk, _ => absurd rfl hk
  | 7, _, _, h => h
  | 8, _, _, h => h
  | 9, _, _, h => h
  | 10, _, _, h => h
  | 11, _, _, h => h
  | 12, _, _, h => h
  | 13, _, _, h => h
  | 14, _, _, h => h
  | 15, _, _, h => h
  | 16, _, _, h => h
  | 17, _, _, h => h
  | 18, _, _, h => h
  | 19, _, _, h => h
  | 20, _, _, h => h
  | 21, _, _, h => h
  | 22, _, _, h => h
  | 23, _, _, h => h
  | 24, _, _, h => h
  | 25, _, _, h => h
  | 26, _, _, h => h
  | 27, _, _, h => h
  | 28, _, _, h => h
  | 29, _, _, h => h
  | 30, _, _, h => h
  | 31, _, _, h => h
  | 32, _, _, h => h
  | 33, _, _, h => h
  | 34, _, _, h => h
  | 35, _, _, h => h
  | 36, _, _, h => h
  | 37, _, _, h => h
  | 38, _, _, h => h
  | 39, _, _, h => h
  | 40, _, _, h => h
  | 41, _, _, h => h
  | 42, _, _, h => h
  | 43, _, _, h => h
  | 44, _, _, h => h
  | _ + 45, _, _, h => h
theorem hF_gV {cI cL cC : ClassId} {gC : Int32} {gP : Int32} {gT : Nat → Int32} {gR : Nat → Int32} {mm : Int32} {ms : Int32} {mg : Int32} {mL : Nat → Int32} {mQ : Nat → Int32} {mZ : Nat → Int32} {dm : Int32} {ds : Int32} {dg : Int32} {dL : Nat → Int32} {dQ : Nat → Int32} {dZ : Nat → Int32} {om : Int32} {os : Int32} {og : Int32} {oL : Nat → Int32} {oQ : Nat → Int32} {oZ : Nat → Int32} {gB : Int32} {gO : Int32} {xk : Int32} {gE : Int32} {gV : Nat → Int32} {gU : Nat → Int32} {gN : Nat → Int32} {G : Nat} {gW : Nat → Int32} {gA : Nat → Int32} {gV' : Nat → Int32} {t : Nat → Nat} : ∀ {k : Nat} {e : va_E}, k ≠ 21 → hF cI cL cC gC gP gT gR mm ms mg mL mQ mZ dm ds dg dL dQ dZ om os og oL oQ oZ gB gO xk gE gV gU gN G gW gA t k e → hF cI cL cC gC gP gT gR mm ms mg mL mQ mZ dm ds dg dL dQ dZ om os og oL oQ oZ gB gO xk gE gV' gU gN G gW gA t k e
  | 0, _, _, h => h
  | 1, _, _, h => h
  | 2, _, _, h => h
  | 3, _, _, h => h
  | 4, _, _, h => h
  | 5, _, _, h => h
  | 6, _, _, h => h
  | 7, _, _, h => h
  | 8, _, _, h => h
  | 9, _, _, h => h
  | 10, _, _, h => h
  | 11, _, _, h => h
  | 12, _, _, h => h
  | 13, _, _, h => h
  | 14, _, _, h => h
  | 15, _, _, h => h
  | 16, _, _, h => h
  | 17, _, _, h => h
  | 18, _, _, h => h
  | 19, _, _, h => h
  | 20, _, _, h => h
  | 21, _, hk, _ => absurd rfl hk
  | 22, _, _, h => h
  | 23, _, _, h => h
  | 24, _, _, h => h
  | 25, _, _, h => h
  | 26, _, _, h => h
  | 27, _, _, h => h
  | 28, _, _, h => h
  | 29, _, _, h => h
  | 30, _, _, h => h
  | 31, _, _, h => h
  | 32, _, _, h => h
  | 33, _, _, h => h
  | 34, _, _, h => h
  | 35, _, _, h => h
  | 36, _, _, h => h
  | 37, _, _, h => h
  | 38, _, _, h => h
  | 39, _, _, h => h
  | 40, _, _, h => h
  | 41, _, _, h => h
  | 42, _, _, h => h
  | 43, _, _, h => h
  | 44, _, _, h => h
  | _ + 45, _, _, h => h
theorem hF_gU {cI cL cC : ClassId} {gC : Int32} {gP : Int32} {gT : Nat → Int32} {gR : Nat → Int32} {mm : Int32} {ms : Int32} {mg : Int32} {mL : Nat → Int32} {mQ : Nat → Int32} {mZ : Nat → Int32} {dm : Int32} {ds : Int32} {dg : Int32} {dL : Nat → Int32} {dQ : Nat → Int32} {dZ : Nat → Int32} {om : Int32} {os : Int32} {og : Int32} {oL : Nat → Int32} {oQ : Nat → Int32} {oZ : Nat → Int32} {gB : Int32} {gO : Int32} {xk : Int32} {gE : Int32} {gV : Nat → Int32} {gU : Nat → Int32} {gN : Nat → Int32} {G : Nat} {gW : Nat → Int32} {gA : Nat → Int32} {gU' : Nat → Int32} {t : Nat → Nat} : ∀ {k : Nat} {e : va_E}, k ≠ 22 → hF cI cL cC gC gP gT gR mm ms mg mL mQ mZ dm ds dg dL dQ dZ om os og oL oQ oZ gB gO xk gE gV gU gN G gW gA t k e → hF cI cL cC gC gP gT gR mm ms mg mL mQ mZ dm ds dg dL dQ dZ om os og oL oQ oZ gB gO xk gE gV gU' gN G gW gA t k e
  | 0, _, _, h => h
  | 1, _, _, h => h
  | 2, _, _, h => h
  | 3, _, _, h => h
  | 4, _, _, h => h
  | 5, _, _, h => h
  | 6, _, _, h => h
  | 7, _, _, h => h
  | 8, _, _, h => h
  | 9, _, _, h => h
  | 10, _, _, h => h
  | 11, _, _, h => h
  | 12, _, _, h => h
  | 13, _, _, h => h
  | 14, _, _, h => h
  | 15, _, _, h => h
  | 16, _, _, h => h
  | 17, _, _, h => h
  | 18, _, _, h => h
  | 19, _, _, h => h
  | 20, _, _, h => h
  | 21, _, _, h => h
  | 22, _, hk, _ => absurd rfl hk
  | 23, _, _, h => h
  | 24, _, _, h => h
  | 25, _, _, h => h
  | 26, _, _, h => h
  | 27, _, _, h => h
  | 28, _, _, h => h
  | 29, _, _, h => h
  | 30, _, _, h => h
  | 31, _, _, h => h
  | 32, _, _, h => h
  | 33, _, _, h => h
  | 34, _, _, h => h
  | 35, _, _, h => h
  | 36, _, _, h => h
  | 37, _, _, h => h
  | 38, _, _, h => h
  | 39, _, _, h => h
  | 40, _, _, h => h
  | 41, _, _, h => h
  | 42, _, _, h => h
  | 43, _, _, h => h
  | 44, _, _, h => h
  | _ + 45, _, _, h => h
theorem hF_gN {cI cL cC : ClassId} {gC : Int32} {gP : Int32} {gT : Nat → Int32} {gR : Nat → Int32} {mm : Int32} {ms : Int32} {mg : Int32} {mL : Nat → Int32} {mQ : Nat → Int32} {mZ : Nat → Int32} {dm : Int32} {ds : Int32} {dg : Int32} {dL : Nat → Int32} {dQ : Nat → Int32} {dZ : Nat → Int32} {om : Int32} {os : Int32} {og : Int32} {oL : Nat → Int32} {oQ : Nat → Int32} {oZ : Nat → Int32} {gB : Int32} {gO : Int32} {xk : Int32} {gE : Int32} {gV : Nat → Int32} {gU : Nat → Int32} {gN : Nat → Int32} {G : Nat} {gW : Nat → Int32} {gA : Nat → Int32} {gN' : Nat → Int32} {t : Nat → Nat} : ∀ {k : Nat} {e : va_E}, k ≠ 23 → hF cI cL cC gC gP gT gR mm ms mg mL mQ mZ dm ds dg dL dQ dZ om os og oL oQ oZ gB gO xk gE gV gU gN G gW gA t k e → hF cI cL cC gC gP gT gR mm ms mg mL mQ mZ dm ds dg dL dQ dZ om os og oL oQ oZ gB gO xk gE gV gU gN' G gW gA t k e
  | 0, _, _, h => h
  | 1, _, _, h => h
  | 2, _, _, h => h
  | 3, _, _, h => h
  | 4, _, _, h => h
  | 5, _, _, h => h
  | 6, _, _, h => h
  | 7, _, _, h => h
  | 8, _, _, h => h
  | 9, _, _, h => h
  | 10, _, _, h => h
  | 11, _, _, h => h
  | 12, _, _, h => h
  | 13, _, _, h => h
  | 14, _, _, h => h
  | 15, _, _, h => h
  | 16, _, _, h => h
  | 17, _, _, h => h
  | 18, _, _, h => h
  | 19, _, _, h => h
  | 20, _, _, h => h
  | 21, _, _, h => h
  | 22, _, _, h => h
  | 23, _, hk, _ => absurd rfl hk
  | 24, _, _, h => h
  | 25, _, _, h => h
  | 26, _, _, h => h
  | 27, _, _, h => h
  | 28, _, _, h => h
  | 29, _, _, h => h
  | 30, _, _, h => h
  | 31, _, _, h => h
  | 32, _, _, h => h
  | 33, _, _, h => h
  | 34, _, _, h => h
  | 35, _, _, h => h
  | 36, _, _, h => h
  | 37, _, _, h => h
  | 38, _, _, h => h
  | 39, _, _, h => h
  | 40, _, _, h => h
  | 41, _, _, h => h
  | 42, _, _, h => h
  | 43, _, _, h => h
  | 44, _, _, h => h
  | _ + 45, _, _, h => h
theorem hF_gW {cI cL cC : ClassId} {gC : Int32} {gP : Int32} {gT : Nat → Int32} {gR : Nat → Int32} {mm : Int32} {ms : Int32} {mg : Int32} {mL : Nat → Int32} {mQ : Nat → Int32} {mZ : Nat → Int32} {dm : Int32} {ds : Int32} {dg : Int32} {dL : Nat → Int32} {dQ : Nat → Int32} {dZ : Nat → Int32} {om : Int32} {os : Int32} {og : Int32} {oL : Nat → Int32} {oQ : Nat → Int32} {oZ : Nat → Int32} {gB : Int32} {gO : Int32} {xk : Int32} {gE : Int32} {gV : Nat → Int32} {gU : Nat → Int32} {gN : Nat → Int32} {G : Nat} {gW : Nat → Int32} {gA : Nat → Int32} {gW' : Nat → Int32} {t : Nat → Nat} : ∀ {k : Nat} {e : va_E}, k ≠ 29 → hF cI cL cC gC gP gT gR mm ms mg mL mQ mZ dm ds dg dL dQ dZ om os og oL oQ oZ gB gO xk gE gV gU gN G gW gA t k e → hF cI cL cC gC gP gT gR mm ms mg mL mQ mZ dm ds dg dL dQ dZ om os og oL oQ oZ gB gO xk gE gV gU gN G gW' gA t k e
  | 0, _, _, h => h
  | 1, _, _, h => h
  | 2, _, _, h => h
  | 3, _, _, h => h
  | 4, _, _, h => h
  | 5, _, _, h => h
  | 6, _, _, h => h
  | 7, _, _, h => h
  | 8, _, _, h => h
  | 9, _, _, h => h
  | 10, _, _, h => h
  | 11, _, _, h => h
  | 12, _, _, h => h
  | 13, _, _, h => h
  | 14, _, _, h => h
  | 15, _, _, h => h
  | 16, _, _, h => h
  | 17, _, _, h => h
  | 18, _, _, h => h
  | 19, _, _, h => h
  | 20, _, _, h => h
  | 21, _, _, h => h
  | 22, _, _, h => h
  | 23, _, _, h => h
  | 24, _, _, h => h
  | 25, _, _, h => h
  | 26, _, _, h => h
  | 27, _, _, h => h
  | 28, _, _, h => h
  | 29, _, hk, _ => absurd rfl hk
  | 30, _, _, h => h
  | 31, _, _, h => h
  | 32, _, _, h => h
  | 33, _, _, h => h
  | 34, _, _, h => h
  | 35, _, _, h => h
  | 36, _, _, h => h
  | 37, _, _, h => h
  | 38, _, _, h => h
  | 39, _, _, h => h
  | 40, _, _, h => h
  | 41, _, _, h => h
  | 42, _, _, h => h
  | 43, _, _, h => h
  | 44, _, _, h => h
  | _ + 45, _, _, h => h
theorem hF_gA {cI cL cC : ClassId} {gC : Int32} {gP : Int32} {gT : Nat → Int32} {gR : Nat → Int32} {mm : Int32} {ms : Int32} {mg : Int32} {mL : Nat → Int32} {mQ : Nat → Int32} {mZ : Nat → Int32} {dm : Int32} {ds : Int32} {dg : Int32} {dL : Nat → Int32} {dQ : Nat → Int32} {dZ : Nat → Int32} {om : Int32} {os : Int32} {og : Int32} {oL : Nat → Int32} {oQ : Nat → Int32} {oZ : Nat → Int32} {gB : Int32} {gO : Int32} {xk : Int32} {gE : Int32} {gV : Nat → Int32} {gU : Nat → Int32} {gN : Nat → Int32} {G : Nat} {gW : Nat → Int32} {gA : Nat → Int32} {gA' : Nat → Int32} {t : Nat → Nat} : ∀ {k : Nat} {e : va_E}, k ≠ 31 → hF cI cL cC gC gP gT gR mm ms mg mL mQ mZ dm ds dg dL dQ dZ om os og oL oQ oZ gB gO xk gE gV gU gN G gW gA t k e → hF cI cL cC gC gP gT gR mm ms mg mL mQ mZ dm ds dg dL dQ dZ om os og oL oQ oZ gB gO xk gE gV gU gN G gW gA' t k e
  | 0, _, _, h => h
  | 1, _, _, h => h
  | 2, _, _, h => h
  | 3, _, _, h => h
  | 4, _, _, h => h
  | 5, _, _, h => h
  | 6, _, _, h => h
  | 7, _, _, h => h
  | 8, _, _, h => h
  | 9, _, _, h => h
  | 10, _, _, h => h
  | 11, _, _, h => h
  | 12, _, _, h => h
  | 13, _, _, h => h
  | 14, _, _, h => h
  | 15, _, _, h => h
  | 16, _, _, h => h
  | 17, _, _, h => h
  | 18, _, _, h => h
  | 19, _, _, h => h
  | 20, _, _, h => h
  | 21, _, _, h => h
  | 22, _, _, h => h
  | 23, _, _, h => h
  | 24, _, _, h => h
  | 25, _, _, h => h
  | 26, _, _, h => h
  | 27, _, _, h => h
  | 28, _, _, h => h
  | 29, _, _, h => h
  | 30, _, _, h => h
  | 31, _, hk, _ => absurd rfl hk
  | 32, _, _, h => h
  | 33, _, _, h => h
  | 34, _, _, h => h
  | 35, _, _, h => h
  | 36, _, _, h => h
  | 37, _, _, h => h
  | 38, _, _, h => h
  | 39, _, _, h => h
  | 40, _, _, h => h
  | 41, _, _, h => h
  | 42, _, _, h => h
  | 43, _, _, h => h
  | 44, _, _, h => h
  | _ + 45, _, _, h => h
