def rF (cI cL cC : ClassId) (gC : Int32) (gP : Int32) (gT : Nat → Int32) (gR : Nat → Int32) (gm : Int32) (gs : Int32) (gg : Int32) (gL : Nat → Int32) (gQ : Nat → Int32) (gZ : Nat → Int32) (gE : Int32) (gV : Nat → Int32) (gU : Nat → Int32) (gN : Nat → Int32) : tFT := fun t k e => match k with
  | 2 => ∃ (r0 : Nat) (r1 : Nat), e = .inr (6, [.ref r0, .ref r1, .int gC, .int gP]) ∧ t r0 = 10 ∧ t r1 = 11
  | 3 => ∃ (r0 : Nat) (r1 : Nat) (r2 : Nat), e = .inr (3, [.ref r0, .ref r1, .ref r2, .int gm, .int gs, .int gg]) ∧ t r0 = 12 ∧ t r1 = 13 ∧ t r2 = 14
  | 6 => ∃ (r0 : Nat) (r1 : Nat) (r2 : Nat), e = .inr (1, [.ref r0, .ref r1, .ref r2, .int gE]) ∧ t r0 = 21 ∧ t r1 = 22 ∧ t r2 = 23
  | 7 => ∃ (r0 : Nat) (r1 : Nat) (r2 : Nat) (r3 : Nat) (r4 : Nat), e = .inr (2, [.ref r0, .ref r1, .ref r2, .ref r3, .ref r4]) ∧ t r0 = 24 ∧ t r1 = 25 ∧ t r2 = 26 ∧ t r3 = 27 ∧ t r4 = 28
  | 10 => e = .inl (cI, 400, .inl gT)
  | 11 => e = .inl (cI, 6, .inl gR)
  | 12 => e = .inl (cI, 240, .inl gL)
  | 13 => e = .inl (cI, 16, .inl gQ)
  | 14 => e = .inl (cI, 4, .inl gZ)
  | 21 => e = .inl (cI, 4, .inl gV)
  | 22 => e = .inl (cI, 4, .inl gU)
  | 23 => e = .inl (cI, 384, .inl gN)
  | 24 => ∃ (f : Nat → Int32), e = .inl (cI, 2, .inl f)
  | 25 => ∃ (f : Nat → Int32), e = .inl (cI, 2, .inl f)
  | 26 => ∃ (f : Nat → Int32), e = .inl (cI, 2, .inl f)
  | 27 => ∃ (f : Nat → Int32), e = .inl (cI, 2, .inl f)
  | 28 => ∃ (f : Nat → Int32), e = .inl (cI, 2, .inl f) ∧ gMany f
  | _ => False
theorem rF_o2 {D : va_G} {cI cL cC : ClassId} {gC : Int32} {gP : Int32} {gT : Nat → Int32} {gR : Nat → Int32} {gm : Int32} {gs : Int32} {gg : Int32} {gL : Nat → Int32} {gQ : Nat → Int32} {gZ : Nat → Int32} {gE : Int32} {gV : Nat → Int32} {gU : Nat → Int32} {gN : Nat → Int32} {t : Nat → Nat} {H : Heap} {a : Nat} (hG : tG D (rF cI cL cC gC gP gT gR gm gs gg gL gQ gZ gE gV gU gN) t H) (ha : t a = 2) : ∃ (r0 : Nat) (r1 : Nat), va_at D vwCl (a, .inr (6, [.ref r0, .ref r1, .int gC, .int gP])) H ∧ t r0 = 10 ∧ t r1 = 11 := by
  obtain ⟨e, h1, h2⟩ := hG a (by rw [ha]; decide)
  rw [ha] at h2
  obtain ⟨r0, r1, rfl, w0, w1⟩ := h2
  exact ⟨r0, r1, h1, w0, w1⟩
theorem rF_o3 {D : va_G} {cI cL cC : ClassId} {gC : Int32} {gP : Int32} {gT : Nat → Int32} {gR : Nat → Int32} {gm : Int32} {gs : Int32} {gg : Int32} {gL : Nat → Int32} {gQ : Nat → Int32} {gZ : Nat → Int32} {gE : Int32} {gV : Nat → Int32} {gU : Nat → Int32} {gN : Nat → Int32} {t : Nat → Nat} {H : Heap} {a : Nat} (hG : tG D (rF cI cL cC gC gP gT gR gm gs gg gL gQ gZ gE gV gU gN) t H) (ha : t a = 3) : ∃ (r0 : Nat) (r1 : Nat) (r2 : Nat), va_at D vwCl (a, .inr (3, [.ref r0, .ref r1, .ref r2, .int gm, .int gs, .int gg])) H ∧ t r0 = 12 ∧ t r1 = 13 ∧ t r2 = 14 := by
  obtain ⟨e, h1, h2⟩ := hG a (by rw [ha]; decide)
  rw [ha] at h2
  obtain ⟨r0, r1, r2, rfl, w0, w1, w2⟩ := h2
  exact ⟨r0, r1, r2, h1, w0, w1, w2⟩
theorem rF_o6 {D : va_G} {cI cL cC : ClassId} {gC : Int32} {gP : Int32} {gT : Nat → Int32} {gR : Nat → Int32} {gm : Int32} {gs : Int32} {gg : Int32} {gL : Nat → Int32} {gQ : Nat → Int32} {gZ : Nat → Int32} {gE : Int32} {gV : Nat → Int32} {gU : Nat → Int32} {gN : Nat → Int32} {t : Nat → Nat} {H : Heap} {a : Nat} (hG : tG D (rF cI cL cC gC gP gT gR gm gs gg gL gQ gZ gE gV gU gN) t H) (ha : t a = 6) : ∃ (r0 : Nat) (r1 : Nat) (r2 : Nat), va_at D vwCl (a, .inr (1, [.ref r0, .ref r1, .ref r2, .int gE])) H ∧ t r0 = 21 ∧ t r1 = 22 ∧ t r2 = 23 := by
  obtain ⟨e, h1, h2⟩ := hG a (by rw [ha]; decide)
  rw [ha] at h2
  obtain ⟨r0, r1, r2, rfl, w0, w1, w2⟩ := h2
  exact ⟨r0, r1, r2, h1, w0, w1, w2⟩
theorem rF_o7 {D : va_G} {cI cL cC : ClassId} {gC : Int32} {gP : Int32} {gT : Nat → Int32} {gR : Nat → Int32} {gm : Int32} {gs : Int32} {gg : Int32} {gL : Nat → Int32} {gQ : Nat → Int32} {gZ : Nat → Int32} {gE : Int32} {gV : Nat → Int32} {gU : Nat → Int32} {gN : Nat → Int32} {t : Nat → Nat} {H : Heap} {a : Nat} (hG : tG D (rF cI cL cC gC gP gT gR gm gs gg gL gQ gZ gE gV gU gN) t H) (ha : t a = 7) : ∃ (r0 : Nat) (r1 : Nat) (r2 : Nat) (r3 : Nat) (r4 : Nat), va_at D vwCl (a, .inr (2, [.ref r0, .ref r1, .ref r2, .ref r3, .ref r4])) H ∧ t r0 = 24 ∧ t r1 = 25 ∧ t r2 = 26 ∧ t r3 = 27 ∧ t r4 = 28 := by
  obtain ⟨e, h1, h2⟩ := hG a (by rw [ha]; decide)
  rw [ha] at h2
  obtain ⟨r0, r1, r2, r3, r4, rfl, w0, w1, w2, w3, w4⟩ := h2
  exact ⟨r0, r1, r2, r3, r4, h1, w0, w1, w2, w3, w4⟩
theorem rF_o10 {D : va_G} {cI cL cC : ClassId} {gC : Int32} {gP : Int32} {gT : Nat → Int32} {gR : Nat → Int32} {gm : Int32} {gs : Int32} {gg : Int32} {gL : Nat → Int32} {gQ : Nat → Int32} {gZ : Nat → Int32} {gE : Int32} {gV : Nat → Int32} {gU : Nat → Int32} {gN : Nat → Int32} {t : Nat → Nat} {H : Heap} {a : Nat} (hG : tG D (rF cI cL cC gC gP gT gR gm gs gg gL gQ gZ gE gV gU gN) t H) (ha : t a = 10) : va_at D vwCl (a, .inl (cI, 400, .inl gT)) H := by
  obtain ⟨e, h1, h2⟩ := hG a (by rw [ha]; decide)
  rw [ha] at h2
  have h3 : e = .inl (cI, 400, .inl gT) := h2
  rw [h3] at h1
  exact h1
theorem rF_o11 {D : va_G} {cI cL cC : ClassId} {gC : Int32} {gP : Int32} {gT : Nat → Int32} {gR : Nat → Int32} {gm : Int32} {gs : Int32} {gg : Int32} {gL : Nat → Int32} {gQ : Nat → Int32} {gZ : Nat → Int32} {gE : Int32} {gV : Nat → Int32} {gU : Nat → Int32} {gN : Nat → Int32} {t : Nat → Nat} {H : Heap} {a : Nat} (hG : tG D (rF cI cL cC gC gP gT gR gm gs gg gL gQ gZ gE gV gU gN) t H) (ha : t a = 11) : va_at D vwCl (a, .inl (cI, 6, .inl gR)) H := by
  obtain ⟨e, h1, h2⟩ := hG a (by rw [ha]; decide)
  rw [ha] at h2
  have h3 : e = .inl (cI, 6, .inl gR) := h2
  rw [h3] at h1
  exact h1
theorem rF_o12 {D : va_G} {cI cL cC : ClassId} {gC : Int32} {gP : Int32} {gT : Nat → Int32} {gR : Nat → Int32} {gm : Int32} {gs : Int32} {gg : Int32} {gL : Nat → Int32} {gQ : Nat → Int32} {gZ : Nat → Int32} {gE : Int32} {gV : Nat → Int32} {gU : Nat → Int32} {gN : Nat → Int32} {t : Nat → Nat} {H : Heap} {a : Nat} (hG : tG D (rF cI cL cC gC gP gT gR gm gs gg gL gQ gZ gE gV gU gN) t H) (ha : t a = 12) : va_at D vwCl (a, .inl (cI, 240, .inl gL)) H := by
  obtain ⟨e, h1, h2⟩ := hG a (by rw [ha]; decide)
  rw [ha] at h2
  have h3 : e = .inl (cI, 240, .inl gL) := h2
  rw [h3] at h1
  exact h1
theorem rF_o13 {D : va_G} {cI cL cC : ClassId} {gC : Int32} {gP : Int32} {gT : Nat → Int32} {gR : Nat → Int32} {gm : Int32} {gs : Int32} {gg : Int32} {gL : Nat → Int32} {gQ : Nat → Int32} {gZ : Nat → Int32} {gE : Int32} {gV : Nat → Int32} {gU : Nat → Int32} {gN : Nat → Int32} {t : Nat → Nat} {H : Heap} {a : Nat} (hG : tG D (rF cI cL cC gC gP gT gR gm gs gg gL gQ gZ gE gV gU gN) t H) (ha : t a = 13) : va_at D vwCl (a, .inl (cI, 16, .inl gQ)) H := by
  obtain ⟨e, h1, h2⟩ := hG a (by rw [ha]; decide)
  rw [ha] at h2
  have h3 : e = .inl (cI, 16, .inl gQ) := h2
  rw [h3] at h1
  exact h1
theorem rF_o14 {D : va_G} {cI cL cC : ClassId} {gC : Int32} {gP : Int32} {gT : Nat → Int32} {gR : Nat → Int32} {gm : Int32} {gs : Int32} {gg : Int32} {gL : Nat → Int32} {gQ : Nat → Int32} {gZ : Nat → Int32} {gE : Int32} {gV : Nat → Int32} {gU : Nat → Int32} {gN : Nat → Int32} {t : Nat → Nat} {H : Heap} {a : Nat} (hG : tG D (rF cI cL cC gC gP gT gR gm gs gg gL gQ gZ gE gV gU gN) t H) (ha : t a = 14) : va_at D vwCl (a, .inl (cI, 4, .inl gZ)) H := by
  obtain ⟨e, h1, h2⟩ := hG a (by rw [ha]; decide)
  rw [ha] at h2
  have h3 : e = .inl (cI, 4, .inl gZ) := h2
  rw [h3] at h1
  exact h1
theorem rF_o21 {D : va_G} {cI cL cC : ClassId} {gC : Int32} {gP : Int32} {gT : Nat → Int32} {gR : Nat → Int32} {gm : Int32} {gs : Int32} {gg : Int32} {gL : Nat → Int32} {gQ : Nat → Int32} {gZ : Nat → Int32} {gE : Int32} {gV : Nat → Int32} {gU : Nat → Int32} {gN : Nat → Int32} {t : Nat → Nat} {H : Heap} {a : Nat} (hG : tG D (rF cI cL cC gC gP gT gR gm gs gg gL gQ gZ gE gV gU gN) t H) (ha : t a = 21) : va_at D vwCl (a, .inl (cI, 4, .inl gV)) H := by
  obtain ⟨e, h1, h2⟩ := hG a (by rw [ha]; decide)
  rw [ha] at h2
  have h3 : e = .inl (cI, 4, .inl gV) := h2
  rw [h3] at h1
  exact h1
theorem rF_o22 {D : va_G} {cI cL cC : ClassId} {gC : Int32} {gP : Int32} {gT : Nat → Int32} {gR : Nat → Int32} {gm : Int32} {gs : Int32} {gg : Int32} {gL : Nat → Int32} {gQ : Nat → Int32} {gZ : Nat → Int32} {gE : Int32} {gV : Nat → Int32} {gU : Nat → Int32} {gN : Nat → Int32} {t : Nat → Nat} {H : Heap} {a : Nat} (hG : tG D (rF cI cL cC gC gP gT gR gm gs gg gL gQ gZ gE gV gU gN) t H) (ha : t a = 22) : va_at D vwCl (a, .inl (cI, 4, .inl gU)) H := by
  obtain ⟨e, h1, h2⟩ := hG a (by rw [ha]; decide)
  rw [ha] at h2
  have h3 : e = .inl (cI, 4, .inl gU) := h2
  rw [h3] at h1
  exact h1
theorem rF_o23 {D : va_G} {cI cL cC : ClassId} {gC : Int32} {gP : Int32} {gT : Nat → Int32} {gR : Nat → Int32} {gm : Int32} {gs : Int32} {gg : Int32} {gL : Nat → Int32} {gQ : Nat → Int32} {gZ : Nat → Int32} {gE : Int32} {gV : Nat → Int32} {gU : Nat → Int32} {gN : Nat → Int32} {t : Nat → Nat} {H : Heap} {a : Nat} (hG : tG D (rF cI cL cC gC gP gT gR gm gs gg gL gQ gZ gE gV gU gN) t H) (ha : t a = 23) : va_at D vwCl (a, .inl (cI, 384, .inl gN)) H := by
  obtain ⟨e, h1, h2⟩ := hG a (by rw [ha]; decide)
  rw [ha] at h2
  have h3 : e = .inl (cI, 384, .inl gN) := h2
  rw [h3] at h1
  exact h1
theorem rF_o24 {D : va_G} {cI cL cC : ClassId} {gC : Int32} {gP : Int32} {gT : Nat → Int32} {gR : Nat → Int32} {gm : Int32} {gs : Int32} {gg : Int32} {gL : Nat → Int32} {gQ : Nat → Int32} {gZ : Nat → Int32} {gE : Int32} {gV : Nat → Int32} {gU : Nat → Int32} {gN : Nat → Int32} {t : Nat → Nat} {H : Heap} {a : Nat} (hG : tG D (rF cI cL cC gC gP gT gR gm gs gg gL gQ gZ gE gV gU gN) t H) (ha : t a = 24) : ∃ (f : Nat → Int32), va_at D vwCl (a, .inl (cI, 2, .inl f)) H := by
  obtain ⟨e, h1, h2⟩ := hG a (by rw [ha]; decide)
  rw [ha] at h2
  obtain ⟨f, rfl⟩ := h2
  exact ⟨f, h1⟩
theorem rF_o25 {D : va_G} {cI cL cC : ClassId} {gC : Int32} {gP : Int32} {gT : Nat → Int32} {gR : Nat → Int32} {gm : Int32} {gs : Int32} {gg : Int32} {gL : Nat → Int32} {gQ : Nat → Int32} {gZ : Nat → Int32} {gE : Int32} {gV : Nat → Int32} {gU : Nat → Int32} {gN : Nat → Int32} {t : Nat → Nat} {H : Heap} {a : Nat} (hG : tG D (rF cI cL cC gC gP gT gR gm gs gg gL gQ gZ gE gV gU gN) t H) (ha : t a = 25) : ∃ (f : Nat → Int32), va_at D vwCl (a, .inl (cI, 2, .inl f)) H := by
  obtain ⟨e, h1, h2⟩ := hG a (by rw [ha]; decide)
  rw [ha] at h2
  obtain ⟨f, rfl⟩ := h2
  exact ⟨f, h1⟩
theorem rF_o26 {D : va_G} {cI cL cC : ClassId} {gC : Int32} {gP : Int32} {gT : Nat → Int32} {gR : Nat → Int32} {gm : Int32} {gs : Int32} {gg : Int32} {gL : Nat → Int32} {gQ : Nat → Int32} {gZ : Nat → Int32} {gE : Int32} {gV : Nat → Int32} {gU : Nat → Int32} {gN : Nat → Int32} {t : Nat → Nat} {H : Heap} {a : Nat} (hG : tG D (rF cI cL cC gC gP gT gR gm gs gg gL gQ gZ gE gV gU gN) t H) (ha : t a = 26) : ∃ (f : Nat → Int32), va_at D vwCl (a, .inl (cI, 2, .inl f)) H := by
  obtain ⟨e, h1, h2⟩ := hG a (by rw [ha]; decide)
  rw [ha] at h2
  obtain ⟨f, rfl⟩ := h2
  exact ⟨f, h1⟩
theorem rF_o27 {D : va_G} {cI cL cC : ClassId} {gC : Int32} {gP : Int32} {gT : Nat → Int32} {gR : Nat → Int32} {gm : Int32} {gs : Int32} {gg : Int32} {gL : Nat → Int32} {gQ : Nat → Int32} {gZ : Nat → Int32} {gE : Int32} {gV : Nat → Int32} {gU : Nat → Int32} {gN : Nat → Int32} {t : Nat → Nat} {H : Heap} {a : Nat} (hG : tG D (rF cI cL cC gC gP gT gR gm gs gg gL gQ gZ gE gV gU gN) t H) (ha : t a = 27) : ∃ (f : Nat → Int32), va_at D vwCl (a, .inl (cI, 2, .inl f)) H := by
  obtain ⟨e, h1, h2⟩ := hG a (by rw [ha]; decide)
  rw [ha] at h2
  obtain ⟨f, rfl⟩ := h2
  exact ⟨f, h1⟩
theorem rF_o28 {D : va_G} {cI cL cC : ClassId} {gC : Int32} {gP : Int32} {gT : Nat → Int32} {gR : Nat → Int32} {gm : Int32} {gs : Int32} {gg : Int32} {gL : Nat → Int32} {gQ : Nat → Int32} {gZ : Nat → Int32} {gE : Int32} {gV : Nat → Int32} {gU : Nat → Int32} {gN : Nat → Int32} {t : Nat → Nat} {H : Heap} {a : Nat} (hG : tG D (rF cI cL cC gC gP gT gR gm gs gg gL gQ gZ gE gV gU gN) t H) (ha : t a = 28) : ∃ (f : Nat → Int32), va_at D vwCl (a, .inl (cI, 2, .inl f)) H ∧ gMany f := by
  obtain ⟨e, h1, h2⟩ := hG a (by rw [ha]; decide)
  rw [ha] at h2
  obtain ⟨f, rfl, w0⟩ := h2
  exact ⟨f, h1, w0⟩

abbrev vT : Nat → Bool := wrL [2]
abbrev vTR : Nat → Bool := wrL [2, 11]
abbrev vTB : Nat → Bool := wrL [2, 10]
abbrev vL : Nat → Bool := wrL [12]
abbrev vM : Nat → Bool := wrL [3, 12, 13, 14]
abbrev vTM : Nat → Bool := wrL [2, 11, 3, 12, 13, 14]
abbrev vG : Nat → Bool := wrL [21, 22, 23]
abbrev vN : Nat → Bool := wrL [23]
theorem rF_gC {cI cL cC : ClassId} {gC : Int32} {gP : Int32} {gT : Nat → Int32} {gR : Nat → Int32} {gm : Int32} {gs : Int32} {gg : Int32} {gL : Nat → Int32} {gQ : Nat → Int32} {gZ : Nat → Int32} {gE : Int32} {gV : Nat → Int32} {gU : Nat → Int32} {gN : Nat → Int32} {gC' : Int32} {t : Nat → Nat} : ∀ {k : Nat} {e : va_E}, k ≠ 2 → rF cI cL cC gC gP gT gR gm gs gg gL gQ gZ gE gV gU gN t k e → rF cI cL cC gC' gP gT gR gm gs gg gL gQ gZ gE gV gU gN t k e
  | 0, _, _, h => h
  | 1, _, _, h => h
  | 2, _, hk, _ => absurd rfl hk
  | 3, _, _, h => h
  | 4, _, _, h => h
  | 5, _, _, h => h
  | 6, _, _, h => h
  | 7, _, _, h => h
  | 8, _, _, h => h
  | 9, _, _, h => h
  | 10, _, _, h => h
  | 11, _, _, h => h
  | 12, _, _, h => h
  | 13, _, _, h => h
  | 14, _, _, h => h
  | 15, _, _, h => h
  | 16, _, _, h => h
  | 17, _, _, h => h
  | 18, _, _, h => h
  | 19, _, _, h => h
  | 20, _, _, h => h
  | 21, _, _, h => h
  | 22, _, _, h => h
  | 23, _, _, h => h
  | 24, _, _, h => h
  | 25, _, _, h => h
  | 26, _, _, h => h
  | 27, _, _, h => h
  | 28, _, _, h => h
  | _ + 29, _, _, h => h
theorem rF_gP {cI cL cC : ClassId} {gC : Int32} {gP : Int32} {gT : Nat → Int32} {gR : Nat → Int32} {gm : Int32} {gs : Int32} {gg : Int32} {gL : Nat → Int32} {gQ : Nat → Int32} {gZ : Nat → Int32} {gE : Int32} {gV : Nat → Int32} {gU : Nat → Int32} {gN : Nat → Int32} {gP' : Int32} {t : Nat → Nat} : ∀ {k : Nat} {e : va_E}, k ≠ 2 → rF cI cL cC gC gP gT gR gm gs gg gL gQ gZ gE gV gU gN t k e → rF cI cL cC gC gP' gT gR gm gs gg gL gQ gZ gE gV gU gN t k e
  | 0, _, _, h => h
  | 1, _, _, h => h
  | 2, _, hk, _ => absurd rfl hk
  | 3, _, _, h => h
  | 4, _, _, h => h
  | 5, _, _, h => h
  | 6, _, _, h => h
  | 7, _, _, h => h
  | 8, _, _, h => h
  | 9, _, _, h => h
  | 10, _, _, h => h
  | 11, _, _, h => h
  | 12, _, _, h => h
  | 13, _, _, h => h
  | 14, _, _, h => h
  | 15, _, _, h => h
  | 16, _, _, h => h
  | 17, _, _, h => h
  | 18, _, _, h => h
  | 19, _, _, h => h
  | 20, _, _, h => h
  | 21, _, _, h => h
  | 22, _, _, h => h
  | 23, _, _, h => h
  | 24, _, _, h => h
  | 25, _, _, h => h
  | 26, _, _, h => h
  | 27, _, _, h => h
  | 28, _, _, h => h
  | _ + 29, _, _, h => h
theorem rF_gT {cI cL cC : ClassId} {gC : Int32} {gP : Int32} {gT : Nat → Int32} {gR : Nat → Int32} {gm : Int32} {gs : Int32} {gg : Int32} {gL : Nat → Int32} {gQ : Nat → Int32} {gZ : Nat → Int32} {gE : Int32} {gV : Nat → Int32} {gU : Nat → Int32} {gN : Nat → Int32} {gT' : Nat → Int32} {t : Nat → Nat} : ∀ {k : Nat} {e : va_E}, k ≠ 10 → rF cI cL cC gC gP gT gR gm gs gg gL gQ gZ gE gV gU gN t k e → rF cI cL cC gC gP gT' gR gm gs gg gL gQ gZ gE gV gU gN t k e
  | 0, _, _, h => h
  | 1, _, _, h => h
  | 2, _, _, h => h
  | 3, _, _, h => h
  | 4, _, _, h => h
  | 5, _, _, h => h
  | 6, _, _, h => h
  | 7, _, _, h => h
  | 8, _, _, h => h
  | 9, _, _, h => h
  | 10, _, hk, _ => absurd rfl hk
  | 11, _, _, h => h
  | 12, _, _, h => h
  | 13, _, _, h => h
  | 14, _, _, h => h
  | 15, _, _, h => h
  | 16, _, _, h => h
  | 17, _, _, h => h
  | 18, _, _, h => h
  | 19, _, _, h => h
  | 20, _, _, h => h
  | 21, _, _, h => h
  | 22, _, _, h => h
  | 23, _, _, h => h
  | 24, _, _, h => h
  | 25, _, _, h => h
  | 26, _, _, h => h
  | 27, _, _, h => h
  | 28, _, _, h => h
  | _ + 29, _, _, h => h
theorem rF_gR {cI cL cC : ClassId} {gC : Int32} {gP : Int32} {gT : Nat → Int32} {gR : Nat → Int32} {gm : Int32} {gs : Int32} {gg : Int32} {gL : Nat → Int32} {gQ : Nat → Int32} {gZ : Nat → Int32} {gE : Int32} {gV : Nat → Int32} {gU : Nat → Int32} {gN : Nat → Int32} {gR' : Nat → Int32} {t : Nat → Nat} : ∀ {k : Nat} {e : va_E}, k ≠ 11 → rF cI cL cC gC gP gT gR gm gs gg gL gQ gZ gE gV gU gN t k e → rF cI cL cC gC gP gT gR' gm gs gg gL gQ gZ gE gV gU gN t k e
  | 0, _, _, h => h
  | 1, _, _, h => h
  | 2, _, _, h => h
  | 3, _, _, h => h
  | 4, _, _, h => h
  | 5, _, _, h => h
  | 6, _, _, h => h
  | 7, _, _, h => h
  | 8, _, _, h => h
  | 9, _, _, h => h
  | 10, _, _, h => h
  | 11, _, hk, _ => absurd rfl hk
  | 12, _, _, h => h
  | 13, _, _, h => h
  | 14, _, _, h => h
  | 15, _, _, h => h
  | 16, _, _, h => h
  | 17, _, _, h => h
  | 18, _, _, h => h
  | 19, _, _, h => h
  | 20, _, _, h => h
  | 21, _, _, h => h
  | 22, _, _, h => h
  | 23, _, _, h => h
  | 24, _, _, h => h
  | 25, _, _, h => h
  | 26, _, _, h => h
  | 27, _, _, h => h
  | 28, _, _, h => h
  | _ + 29, _, _, h => h
theorem rF_gm {cI cL cC : ClassId} {gC : Int32} {gP : Int32} {gT : Nat → Int32} {gR : Nat → Int32} {gm : Int32} {gs : Int32} {gg : Int32} {gL : Nat → Int32} {gQ : Nat → Int32} {gZ : Nat → Int32} {gE : Int32} {gV : Nat → Int32} {gU : Nat → Int32} {gN : Nat → Int32} {gm' : Int32} {t : Nat → Nat} : ∀ {k : Nat} {e : va_E}, k ≠ 3 → rF cI cL cC gC gP gT gR gm gs gg gL gQ gZ gE gV gU gN t k e → rF cI cL cC gC gP gT gR gm' gs gg gL gQ gZ gE gV gU gN t k e
  | 0, _, _, h => h
  | 1, _, _, h => h
  | 2, _, _, h => h
  | 3, _, hk, _ => absurd rfl hk
  | 4, _, _, h => h
  | 5, _, _, h => h
  | 6, _, _, h => h
  | 7, _, _, h => h
  | 8, _, _, h => h
  | 9, _, _, h => h
  | 10, _, _, h => h
  | 11, _, _, h => h
  | 12, _, _, h => h
  | 13, _, _, h => h
  | 14, _, _, h => h
  | 15, _, _, h => h
  | 16, _, _, h => h
  | 17, _, _, h => h
  | 18, _, _, h => h
  | 19, _, _, h => h
  | 20, _, _, h => h
  | 21, _, _, h => h
  | 22, _, _, h => h
  | 23, _, _, h => h
  | 24, _, _, h => h
  | 25, _, _, h => h
  | 26, _, _, h => h
  | 27, _, _, h => h
  | 28, _, _, h => h
  | _ + 29, _, _, h => h
theorem rF_gs {cI cL cC : ClassId} {gC : Int32} {gP : Int32} {gT : Nat → Int32} {gR : Nat → Int32} {gm : Int32} {gs : Int32} {gg : Int32} {gL : Nat → Int32} {gQ : Nat → Int32} {gZ : Nat → Int32} {gE : Int32} {gV : Nat → Int32} {gU : Nat → Int32} {gN : Nat → Int32} {gs' : Int32} {t : Nat → Nat} : ∀ {k : Nat} {e : va_E}, k ≠ 3 → rF cI cL cC gC gP gT gR gm gs gg gL gQ gZ gE gV gU gN t k e → rF cI cL cC gC gP gT gR gm gs' gg gL gQ gZ gE gV gU gN t k e
  | 0, _, _, h => h
  | 1, _, _, h => h
  | 2, _, _, h => h
  | 3, _, hk, _ => absurd rfl hk
  | 4, _, _, h => h
  | 5, _, _, h => h
  | 6, _, _, h => h
  | 7, _, _, h => h
  | 8, _, _, h => h
  | 9, _, _, h => h
  | 10, _, _, h => h
  | 11, _, _, h => h
  | 12, _, _, h => h
  | 13, _, _, h => h
  | 14, _, _, h => h
  | 15, _, _, h => h
  | 16, _, _, h => h
  | 17, _, _, h => h
  | 18, _, _, h => h
  | 19, _, _, h => h
  | 20, _, _, h => h
  | 21, _, _, h => h
  | 22, _, _, h => h
  | 23, _, _, h => h
  | 24, _, _, h => h
  | 25, _, _, h => h
  | 26, _, _, h => h
  | 27, _, _, h => h
  | 28, _, _, h => h
  | _ + 29, _, _, h => h
theorem rF_gg {cI cL cC : ClassId} {gC : Int32} {gP : Int32} {gT : Nat → Int32} {gR : Nat → Int32} {gm : Int32} {gs : Int32} {gg : Int32} {gL : Nat → Int32} {gQ : Nat → Int32} {gZ : Nat → Int32} {gE : Int32} {gV : Nat → Int32} {gU : Nat → Int32} {gN : Nat → Int32} {gg' : Int32} {t : Nat → Nat} : ∀ {k : Nat} {e : va_E}, k ≠ 3 → rF cI cL cC gC gP gT gR gm gs gg gL gQ gZ gE gV gU gN t k e → rF cI cL cC gC gP gT gR gm gs gg' gL gQ gZ gE gV gU gN t k e
  | 0, _, _, h => h
  | 1, _, _, h => h
  | 2, _, _, h => h
  | 3, _, hk, _ => absurd rfl hk
  | 4, _, _, h => h
  | 5, _, _, h => h
  | 6, _, _, h => h
  | 7, _, _, h => h
  | 8, _, _, h => h
  | 9, _, _, h => h
  | 10, _, _, h => h
  | 11, _, _, h => h
  | 12, _, _, h => h
  | 13, _, _, h => h
  | 14, _, _, h => h
  | 15, _, _, h => h
  | 16, _, _, h => h
  | 17, _, _, h => h
  | 18, _, _, h => h
  | 19, _, _, h => h
  | 20, _, _, h => h
  | 21, _, _, h => h
  | 22, _, _, h => h
  | 23, _, _, h => h
  | 24, _, _, h => h
  | 25, _, _, h => h
  | 26, _, _, h => h
  | 27, _, _, h => h
  | 28, _, _, h => h
  | _ + 29, _, _, h => h
theorem rF_gL {cI cL cC : ClassId} {gC : Int32} {gP : Int32} {gT : Nat → Int32} {gR : Nat → Int32} {gm : Int32} {gs : Int32} {gg : Int32} {gL : Nat → Int32} {gQ : Nat → Int32} {gZ : Nat → Int32} {gE : Int32} {gV : Nat → Int32} {gU : Nat → Int32} {gN : Nat → Int32} {gL' : Nat → Int32} {t : Nat → Nat} : ∀ {k : Nat} {e : va_E}, k ≠ 12 → rF cI cL cC gC gP gT gR gm gs gg gL gQ gZ gE gV gU gN t k e → rF cI cL cC gC gP gT gR gm gs gg gL' gQ gZ gE gV gU gN t k e
  | 0, _, _, h => h
  | 1, _, _, h => h
  | 2, _, _, h => h
  | 3, _, _, h => h
  | 4, _, _, h => h
  | 5, _, _, h => h
  | 6, _, _, h => h
  | 7, _, _, h => h
  | 8, _, _, h => h
  | 9, _, _, h => h
  | 10, _, _, h => h
  | 11, _, _, h => h
  | 12, _, hk, _ => absurd rfl hk
  | 13, _, _, h => h
  | 14, _, _, h => h
  | 15, _, _, h => h
  | 16, _, _, h => h
  | 17, _, _, h => h
  | 18, _, _, h => h
  | 19, _, _, h => h
  | 20, _, _, h => h
  | 21, _, _, h => h
  | 22, _, _, h => h
  | 23, _, _, h => h
  | 24, _, _, h => h
  | 25, _, _, h => h
  | 26, _, _, h => h
  | 27, _, _, h => h
  | 28, _, _, h => h
  | _ + 29, _, _, h => h
theorem rF_gQ {cI cL cC : ClassId} {gC : Int32} {gP : Int32} {gT : Nat → Int32} {gR : Nat → Int32} {gm : Int32} {gs : Int32} {gg : Int32} {gL : Nat → Int32} {gQ : Nat → Int32} {gZ : Nat → Int32} {gE : Int32} {gV : Nat → Int32} {gU : Nat → Int32} {gN : Nat → Int32} {gQ' : Nat → Int32} {t : Nat → Nat} : ∀ {k : Nat} {e : va_E}, k ≠ 13 → rF cI cL cC gC gP gT gR gm gs gg gL gQ gZ gE gV gU gN t k e → rF cI cL cC gC gP gT gR gm gs gg gL gQ' gZ gE gV gU gN t k e
  | 0, _, _, h => h
  | 1, _, _, h => h
  | 2, _, _, h => h
  | 3, _, _, h => h
  | 4, _, _, h => h
  | 5, _, _, h => h
  | 6, _, _, h => h
  | 7, _, _, h => h
  | 8, _, _, h => h
  | 9, _, _, h => h
  | 10, _, _, h => h
  | 11, _, _, h => h
  | 12, _, _, h => h
  | 13, _, hk, _ => absurd rfl hk
  | 14, _, _, h => h
  | 15, _, _, h => h
  | 16, _, _, h => h
  | 17, _, _, h => h
  | 18, _, _, h => h
  | 19, _, _, h => h
  | 20, _, _, h => h
  | 21, _, _, h => h
  | 22, _, _, h => h
  | 23, _, _, h => h
  | 24, _, _, h => h
  | 25, _, _, h => h
  | 26, _, _, h => h
  | 27, _, _, h => h
  | 28, _, _, h => h
  | _ + 29, _, _, h => h
theorem rF_gZ {cI cL cC : ClassId} {gC : Int32} {gP : Int32} {gT : Nat → Int32} {gR : Nat → Int32} {gm : Int32} {gs : Int32} {gg : Int32} {gL : Nat → Int32} {gQ : Nat → Int32} {gZ : Nat → Int32} {gE : Int32} {gV : Nat → Int32} {gU : Nat → Int32} {gN : Nat → Int32} {gZ' : Nat → Int32} {t : Nat → Nat} : ∀ {k : Nat} {e : va_E}, k ≠ 14 → rF cI cL cC gC gP gT gR gm gs gg gL gQ gZ gE gV gU gN t k e → rF cI cL cC gC gP gT gR gm gs gg gL gQ gZ' gE gV gU gN t k e
  | 0, _, _, h => h
  | 1, _, _, h => h
  | 2, _, _, h => h
  | 3, _, _, h => h
  | 4, _, _, h => h
  | 5, _, _, h => h
  | 6, _, _, h => h
  | 7, _, _, h => h
  | 8, _, _, h => h
  | 9, _, _, h => h
  | 10, _, _, h => h
  | 11, _, _, h => h
  | 12, _, _, h => h
  | 13, _, _, h => h
  | 14, _, hk, _ => absurd rfl hk
  | 15, _, _, h => h
  | 16, _, _, h => h
  | 17, _, _, h => h
  | 18, _, _, h => h
  | 19, _, _, h => h
  | 20, _, _, h => h
  | 21, _, _, h => h
  | 22, _, _, h => h
  | 23, _, _, h => h
  | 24, _, _, h => h
  | 25, _, _, h => h
  | 26, _, _, h => h
  | 27, _, _, h => h
  | 28, _, _, h => h
  | _ + 29, _, _, h => h
theorem rF_gE {cI cL cC : ClassId} {gC : Int32} {gP : Int32} {gT : Nat → Int32} {gR : Nat → Int32} {gm : Int32} {gs : Int32} {gg : Int32} {gL : Nat → Int32} {gQ : Nat → Int32} {gZ : Nat → Int32} {gE : Int32} {gV : Nat → Int32} {gU : Nat → Int32} {gN : Nat → Int32} {gE' : Int32} {t : Nat → Nat} : ∀ {k : Nat} {e : va_E}, k ≠ 6 → rF cI cL cC gC gP gT gR gm gs gg gL gQ gZ gE gV gU gN t k e → rF cI cL cC gC gP gT gR gm gs gg gL gQ gZ gE' gV gU gN t k e
  | 0, _, _, h => h
  | 1, _, _, h => h
  | 2, _, _, h => h
  | 3, _, _, h => h
  | 4, _, _, h => h
  | 5, _, _, h => h
  | 6, _, hk, _ => absurd rfl hk
  | 7, _, _, h => h
  | 8, _, _, h => h
  | 9, _, _, h => h
  | 10, _, _, h => h
  | 11, _, _, h => h
  | 12, _, _, h => h
  | 13, _, _, h => h
  | 14, _, _, h => h
  | 15, _, _, h => h
  | 16, _, _, h => h
  | 17, _, _, h => h
  | 18, _, _, h => h
  | 19, _, _, h => h
  | 20, _, _, h => h
  | 21, _, _, h => h
  | 22, _, _, h => h
  | 23, _, _, h => h
  | 24, _, _, h => h
  | 25, _, _, h => h
  | 26, _, _, h => h
  | 27, _, _, h => h
  | 28, _, _, h => h
  | _ + 29, _, _, h => h
theorem rF_gV {cI cL cC : ClassId} {gC : Int32} {gP : Int32} {gT : Nat → Int32} {gR : Nat → Int32} {gm : Int32} {gs : Int32} {gg : Int32} {gL : Nat → Int32} {gQ : Nat → Int32} {gZ : Nat → Int32} {gE : Int32} {gV : Nat → Int32} {gU : Nat → Int32} {gN : Nat → Int32} {gV' : Nat → Int32} {t : Nat → Nat} : ∀ {k : Nat} {e : va_E}, k ≠ 21 → rF cI cL cC gC gP gT gR gm gs gg gL gQ gZ gE gV gU gN t k e → rF cI cL cC gC gP gT gR gm gs gg gL gQ gZ gE gV' gU gN t k e
  | 0, _, _, h => h
  | 1, _, _, h => h
  | 2, _, _, h => h
  | 3, _, _, h => h
  | 4, _, _, h => h
  | 5, _, _, h => h
  | 6, _, _, h => h
  | 7, _, _, h => h
  | 8, _, _, h => h
  | 9, _, _, h => h
  | 10, _, _, h => h
  | 11, _, _, h => h
  | 12, _, _, h => h
  | 13, _, _, h => h
  | 14, _, _, h => h
  | 15, _, _, h => h
  | 16, _, _, h => h
  | 17, _, _, h => h
  | 18, _, _, h => h
  | 19, _, _, h => h
  | 20, _, _, h => h
  | 21, _, hk, _ => absurd rfl hk
  | 22, _, _, h => h
  | 23, _, _, h => h
  | 24, _, _, h => h
  | 25, _, _, h => h
  | 26, _, _, h => h
  | 27, _, _, h => h
  | 28, _, _, h => h
  | _ + 29, _, _, h => h
theorem rF_gU {cI cL cC : ClassId} {gC : Int32} {gP : Int32} {gT : Nat → Int32} {gR : Nat → Int32} {gm : Int32} {gs : Int32} {gg : Int32} {gL : Nat → Int32} {gQ : Nat → Int32} {gZ : Nat → Int32} {gE : Int32} {gV : Nat → Int32} {gU : Nat → Int32} {gN : Nat → Int32} {gU' : Nat → Int32} {t : Nat → Nat} : ∀ {k : Nat} {e : va_E}, k ≠ 22 → rF cI cL cC gC gP gT gR gm gs gg gL gQ gZ gE gV gU gN t k e → rF cI cL cC gC gP gT gR gm gs gg gL gQ gZ gE gV gU' gN t k e
  | 0, _, _, h => h
  | 1, _, _, h => h
  | 2, _, _, h => h
  | 3, _, _, h => h
  | 4, _, _, h => h
  | 5, _, _, h => h
  | 6, _, _, h => h
  | 7, _, _, h => h
  | 8, _, _, h => h
  | 9, _, _, h => h
  | 10, _, _, h => h
  | 11, _, _, h => h
  | 12, _, _, h => h
  | 13, _, _, h => h
  | 14, _, _, h => h
  | 15, _, _, h => h
  | 16, _, _, h => h
  | 17, _, _, h => h
  | 18, _, _, h => h
  | 19, _, _, h => h
  | 20, _, _, h => h
  | 21, _, _, h => h
  | 22, _, hk, _ => absurd rfl hk
  | 23, _, _, h => h
  | 24, _, _, h => h
  | 25, _, _, h => h
  | 26, _, _, h => h
  | 27, _, _, h => h
  | 28, _, _, h => h
  | _ + 29, _, _, h => h
theorem rF_gN {cI cL cC : ClassId} {gC : Int32} {gP : Int32} {gT : Nat → Int32} {gR : Nat → Int32} {gm : Int32} {gs : Int32} {gg : Int32} {gL : Nat → Int32} {gQ : Nat → Int32} {gZ : Nat → Int32} {gE : Int32} {gV : Nat → Int32} {gU : Nat → Int32} {gN : Nat → Int32} {gN' : Nat → Int32} {t : Nat → Nat} : ∀ {k : Nat} {e : va_E}, k ≠ 23 → rF cI cL cC gC gP gT gR gm gs gg gL gQ gZ gE gV gU gN t k e → rF cI cL cC gC gP gT gR gm gs gg gL gQ gZ gE gV gU gN' t k e
  | 0, _, _, h => h
  | 1, _, _, h => h
  | 2, _, _, h => h
  | 3, _, _, h => h
  | 4, _, _, h => h
  | 5, _, _, h => h
  | 6, _, _, h => h
  | 7, _, _, h => h
  | 8, _, _, h => h
  | 9, _, _, h => h
  | 10, _, _, h => h
  | 11, _, _, h => h
  | 12, _, _, h => h
  | 13, _, _, h => h
  | 14, _, _, h => h
  | 15, _, _, h => h
  | 16, _, _, h => h
  | 17, _, _, h => h
  | 18, _, _, h => h
  | 19, _, _, h => h
  | 20, _, _, h => h
  | 21, _, _, h => h
  | 22, _, _, h => h
  | 23, _, hk, _ => absurd rfl hk
  | 24, _, _, h => h
  | 25, _, _, h => h
  | 26, _, _, h => h
  | 27, _, _, h => h
  | 28, _, _, h => h
  | _ + 29, _, _, h => h
def c2F (cI cL cC : ClassId) (um : Int32) (us : Int32) (ug : Int32) (uL : Nat → Int32) (uQ : Nat → Int32) (uZ : Nat → Int32) (vm : Int32) (vs : Int32) (vg : Int32) (vL0 : Nat → Int32) (vQ : Nat → Int32) (vZ : Nat → Int32) : tFT := fun t k e => match k with
  | 3 => ∃ (r0 : Nat) (r1 : Nat) (r2 : Nat), e = .inr (3, [.ref r0, .ref r1, .ref r2, .int um, .int us, .int ug]) ∧ t r0 = 12 ∧ t r1 = 13 ∧ t r2 = 14
  | 12 => e = .inl (cI, 240, .inl uL)
  | 13 => e = .inl (cI, 16, .inl uQ)
  | 14 => e = .inl (cI, 4, .inl uZ)
  | 37 => ∃ (r0 : Nat) (r1 : Nat) (r2 : Nat), e = .inr (3, [.ref r0, .ref r1, .ref r2, .int vm, .int vs, .int vg]) ∧ t r0 = 38 ∧ t r1 = 39 ∧ t r2 = 40
  | 38 => e = .inl (cI, 240, .inl vL0)
  | 39 => e = .inl (cI, 16, .inl vQ)
  | 40 => e = .inl (cI, 4, .inl vZ)
  | _ => False
theorem c2F_o3 {D : va_G} {cI cL cC : ClassId} {um : Int32} {us : Int32} {ug : Int32} {uL : Nat → Int32} {uQ : Nat → Int32} {uZ : Nat → Int32} {vm : Int32} {vs : Int32} {vg : Int32} {vL0 : Nat → Int32} {vQ : Nat → Int32} {vZ : Nat → Int32} {t : Nat → Nat} {H : Heap} {a : Nat} (hG : tG D (c2F cI cL cC um us ug uL uQ uZ vm vs vg vL0 vQ vZ) t H) (ha : t a = 3) : ∃ (r0 : Nat) (r1 : Nat) (r2 : Nat), va_at D vwCl (a, .inr (3, [.ref r0, .ref r1, .ref r2, .int um, .int us, .int ug])) H ∧ t r0 = 12 ∧ t r1 = 13 ∧ t r2 = 14 := by
  obtain ⟨e, h1, h2⟩ := hG a (by rw [ha]; decide)
  rw [ha] at h2
  obtain ⟨r0, r1, r2, rfl, w0, w1, w2⟩ := h2
  exact ⟨r0, r1, r2, h1, w0, w1, w2⟩
theorem c2F_o12 {D : va_G} {cI cL cC : ClassId} {um : Int32} {us : Int32} {ug : Int32} {uL : Nat → Int32} {uQ : Nat → Int32} {uZ : Nat → Int32} {vm : Int32} {vs : Int32} {vg : Int32} {vL0 : Nat → Int32} {vQ : Nat → Int32} {vZ : Nat → Int32} {t : Nat → Nat} {H : Heap} {a : Nat} (hG : tG D (c2F cI cL cC um us ug uL uQ uZ vm vs vg vL0 vQ vZ) t H) (ha : t a = 12) : va_at D vwCl (a, .inl (cI, 240, .inl uL)) H := by
  obtain ⟨e, h1, h2⟩ := hG a (by rw [ha]; decide)
  rw [ha] at h2
  have h3 : e = .inl (cI, 240, .inl uL) := h2
  rw [h3] at h1
  exact h1
theorem c2F_o13 {D : va_G} {cI cL cC : ClassId} {um : Int32} {us : Int32} {ug : Int32} {uL : Nat → Int32} {uQ : Nat → Int32} {uZ : Nat → Int32} {vm : Int32} {vs : Int32} {vg : Int32} {vL0 : Nat → Int32} {vQ : Nat → Int32} {vZ : Nat → Int32} {t : Nat → Nat} {H : Heap} {a : Nat} (hG : tG D (c2F cI cL cC um us ug uL uQ uZ vm vs vg vL0 vQ vZ) t H) (ha : t a = 13) : va_at D vwCl (a, .inl (cI, 16, .inl uQ)) H := by
  obtain ⟨e, h1, h2⟩ := hG a (by rw [ha]; decide)
  rw [ha] at h2
  have h3 : e = .inl (cI, 16, .inl uQ) := h2
  rw [h3] at h1
  exact h1
theorem c2F_o14 {D : va_G} {cI cL cC : ClassId} {um : Int32} {us : Int32} {ug : Int32} {uL : Nat → Int32} {uQ : Nat → Int32} {uZ : Nat → Int32} {vm : Int32} {vs : Int32} {vg : Int32} {vL0 : Nat → Int32} {vQ : Nat → Int32} {vZ : Nat → Int32} {t : Nat → Nat} {H : Heap} {a : Nat} (hG : tG D (c2F cI cL cC um us ug uL uQ uZ vm vs vg vL0 vQ vZ) t H) (ha : t a = 14) : va_at D vwCl (a, .inl (cI, 4, .inl uZ)) H := by
  obtain ⟨e, h1, h2⟩ := hG a (by rw [ha]; decide)
  rw [ha] at h2
  have h3 : e = .inl (cI, 4, .inl uZ) := h2
  rw [h3] at h1
  exact h1
theorem c2F_o37 {D : va_G} {cI cL cC : ClassId} {um : Int32} {us : Int32} {ug : Int32} {uL : Nat → Int32} {uQ : Nat → Int32} {uZ : Nat → Int32} {vm : Int32} {vs : Int32} {vg : Int32} {vL0 : Nat → Int32} {vQ : Nat → Int32} {vZ : Nat → Int32} {t : Nat → Nat} {H : Heap} {a : Nat} (hG : tG D (c2F cI cL cC um us ug uL uQ uZ vm vs vg vL0 vQ vZ) t H) (ha : t a = 37) : ∃ (r0 : Nat) (r1 : Nat) (r2 : Nat), va_at D vwCl (a, .inr (3, [.ref r0, .ref r1, .ref r2, .int vm, .int vs, .int vg])) H ∧ t r0 = 38 ∧ t r1 = 39 ∧ t r2 = 40 := by
  obtain ⟨e, h1, h2⟩ := hG a (by rw [ha]; decide)
  rw [ha] at h2
  obtain ⟨r0, r1, r2, rfl, w0, w1, w2⟩ := h2
  exact ⟨r0, r1, r2, h1, w0, w1, w2⟩
theorem c2F_o38 {D : va_G} {cI cL cC : ClassId} {um : Int32} {us : Int32} {ug : Int32} {uL : Nat → Int32} {uQ : Nat → Int32} {uZ : Nat → Int32} {vm : Int32} {vs : Int32} {vg : Int32} {vL0 : Nat → Int32} {vQ : Nat → Int32} {vZ : Nat → Int32} {t : Nat → Nat} {H : Heap} {a : Nat} (hG : tG D (c2F cI cL cC um us ug uL uQ uZ vm vs vg vL0 vQ vZ) t H) (ha : t a = 38) : va_at D vwCl (a, .inl (cI, 240, .inl vL0)) H := by
  obtain ⟨e, h1, h2⟩ := hG a (by rw [ha]; decide)
  rw [ha] at h2
  have h3 : e = .inl (cI, 240, .inl vL0) := h2
  rw [h3] at h1
  exact h1
theorem c2F_o39 {D : va_G} {cI cL cC : ClassId} {um : Int32} {us : Int32} {ug : Int32} {uL : Nat → Int32} {uQ : Nat → Int32} {uZ : Nat → Int32} {vm : Int32} {vs : Int32} {vg : Int32} {vL0 : Nat → Int32} {vQ : Nat → Int32} {vZ : Nat → Int32} {t : Nat → Nat} {H : Heap} {a : Nat} (hG : tG D (c2F cI cL cC um us ug uL uQ uZ vm vs vg vL0 vQ vZ) t H) (ha : t a = 39) : va_at D vwCl (a, .inl (cI, 16, .inl vQ)) H := by
  obtain ⟨e, h1, h2⟩ := hG a (by rw [ha]; decide)
  rw [ha] at h2
  have h3 : e = .inl (cI, 16, .inl vQ) := h2
  rw [h3] at h1
  exact h1
theorem c2F_o40 {D : va_G} {cI cL cC : ClassId} {um : Int32} {us : Int32} {ug : Int32} {uL : Nat → Int32} {uQ : Nat → Int32} {uZ : Nat → Int32} {vm : Int32} {vs : Int32} {vg : Int32} {vL0 : Nat → Int32} {vQ : Nat → Int32} {vZ : Nat → Int32} {t : Nat → Nat} {H : Heap} {a : Nat} (hG : tG D (c2F cI cL cC um us ug uL uQ uZ vm vs vg vL0 vQ vZ) t H) (ha : t a = 40) : va_at D vwCl (a, .inl (cI, 4, .inl vZ)) H := by
  obtain ⟨e, h1, h2⟩ := hG a (by rw [ha]; decide)
  rw [ha] at h2
  have h3 : e = .inl (cI, 4, .inl vZ) := h2
  rw [h3] at h1
  exact h1
abbrev c2w : Nat → Bool := wrL [3, 12, 13, 14]
theorem c2F_um {cI cL cC : ClassId} {um : Int32} {us : Int32} {ug : Int32} {uL : Nat → Int32} {uQ : Nat → Int32} {uZ : Nat → Int32} {vm : Int32} {vs : Int32} {vg : Int32} {vL0 : Nat → Int32} {vQ : Nat → Int32} {vZ : Nat → Int32} {um' : Int32} {t : Nat → Nat} : ∀ {k : Nat} {e : va_E}, k ≠ 3 → c2F cI cL cC um us ug uL uQ uZ vm vs vg vL0 vQ vZ t k e → c2F cI cL cC um' us ug uL uQ uZ vm vs vg vL0 vQ vZ t k e
  | 0, _, _, h => h
  | 1, _, _, h => h
  | 2, _, _, h => h
  | 3, _, hk, _ => absurd rfl hk
  | 4, _, _, h => h
  | 5, _, _, h => h
  | 6, _, _, h => h
  | 7, _, _, h => h
  | 8, _, _, h => h
  | 9, _, _, h => h
  | 10, _, _, h => h
  | 11, _, _, h => h
  | 12, _, _, h => h
  | 13, _, _, h => h
  | 14, _, _, h => h
  | 15, _, _, h => h
  | 16, _, _, h => h
  | 17, _, _, h => h
  | 18, _, _, h => h
  | 19, _, _, h => h
  | 20, _, _, h => h
  | 21, _, _, h => h
  | 22, _, _, h => h
  | 23, _, _, h => h
  | 24, _, _, h => h
  | 25, _, _, h => h
  | 26, _, _, h => h
  | 27, _, _, h => h
  | 28, _, _, h => h
  | 29, _, _, h => h
  | 30, _, _, h => h
  | 31, _, _, h => h
  | 32, _, _, h => h
  | 33, _, _, h => h
  | 34, _, _, h => h
  | 35, _, _, h => h
  | 36, _, _, h => h
  | 37, _, _, h => h
  | 38, _, _, h => h
  | 39, _, _, h => h
  | 40, _, _, h => h
  | _ + 41, _, _, h => h
theorem c2F_us {cI cL cC : ClassId} {um : Int32} {us : Int32} {ug : Int32} {uL : Nat → Int32} {uQ : Nat → Int32} {uZ : Nat → Int32} {vm : Int32} {vs : Int32} {vg : Int32} {vL0 : Nat → Int32} {vQ : Nat → Int32} {vZ : Nat → Int32} {us' : Int32} {t : Nat → Nat} : ∀ {k : Nat} {e : va_E}, k ≠ 3 → c2F cI cL cC um us ug uL uQ uZ vm vs vg vL0 vQ vZ t k e → c2F cI cL cC um us' ug uL uQ uZ vm vs vg vL0 vQ vZ t k e
  | 0, _, _, h => h
  | 1, _, _, h => h
  | 2, _, _, h => h
  | 3, _, hk, _ => absurd rfl hk
  | 4, _, _, h => h
  | 5, _, _, h => h
  | 6, _, _, h => h
  | 7, _, _, h => h
  | 8, _, _, h => h
  | 9, _, _, h => h
  | 10, _, _, h => h
  | 11, _, _, h => h
  | 12, _, _, h => h
  | 13, _, _, h => h
  | 14, _, _, h => h
  | 15, _, _, h => h
  | 16, _, _, h => h
  | 17, _, _, h => h
  | 18, _, _, h => h
  | 19, _, _, h => h
  | 20, _, _, h => h
  | 21, _, _, h => h
  | 22, _, _, h => h
  | 23, _, _, h => h
  | 24, _, _, h => h
  | 25, _, _, h => h
  | 26, _, _, h => h
  | 27, _, _, h => h
  | 28, _, _, h => h
  | 29, _, _, h => h
  | 30, _, _, h => h
  | 31, _, _, h => h
  | 32, _, _, h => h
  | 33, _, _, h => h
  | 34, _, _, h => h
  | 35, _, _, h => h
  | 36, _, _, h => h
  | 37, _, _, h => h
  | 38, _, _, h => h
  | 39, _, _, h => h
  | 40, _, _, h => h
  | _ + 41, _, _, h => h
theorem c2F_ug {cI cL cC : ClassId} {um : Int32} {us : Int32} {ug : Int32} {uL : Nat → Int32} {uQ : Nat → Int32} {uZ : Nat → Int32} {vm : Int32} {vs : Int32} {vg : Int32} {vL0 : Nat → Int32} {vQ : Nat → Int32} {vZ : Nat → Int32} {ug' : Int32} {t : Nat → Nat} : ∀ {k : Nat} {e : va_E}, k ≠ 3 → c2F cI cL cC um us ug uL uQ uZ vm vs vg vL0 vQ vZ t k e → c2F cI cL cC um us ug' uL uQ uZ vm vs vg vL0 vQ vZ t k e
  | 0, _, _, h => h
  | 1, _, _, h => h
  | 2, _, _, h => h
  | 3, _, hk, _ => absurd rfl hk
  | 4, _, _, h => h
  | 5, _, _, h => h
  | 6, _, _, h => h
  | 7, _, _, h => h
  | 8, _, _, h => h
  | 9, _, _, h => h
  | 10, _, _, h => h
  | 11, _, _, h => h
  | 12, _, _, h => h
  | 13, _, _, h => h
  | 14, _, _, h => h
  | 15, _, _, h => h
  | 16, _, _, h => h
  | 17, _, _, h => h
  | 18, _, _, h => h
  | 19, _, _, h => h
  | 20, _, _, h => h
  | 21, _, _, h => h
  | 22, _, _, h => h
  | 23, _, _, h => h
  | 24, _, _, h => h
  | 25, _, _, h => h
  | 26, _, _, h => h
  | 27, _, _, h => h
  | 28, _, _, h => h
  | 29, _, _, h => h
  | 30, _, _, h => h
  | 31, _, _, h => h
  | 32, _, _, h => h
  | 33, _, _, h => h
  | 34, _, _, h => h
  | 35, _, _, h => h
  | 36, _, _, h => h
  | 37, _, _, h => h
  | 38, _, _, h => h
  | 39, _, _, h => h
  | 40, _, _, h => h
  | _ + 41, _, _, h => h
theorem c2F_uL {cI cL cC : ClassId} {um : Int32} {us : Int32} {ug : Int32} {uL : Nat → Int32} {uQ : Nat → Int32} {uZ : Nat → Int32} {vm : Int32} {vs : Int32} {vg : Int32} {vL0 : Nat → Int32} {vQ : Nat → Int32} {vZ : Nat → Int32} {uL' : Nat → Int32} {t : Nat → Nat} : ∀ {k : Nat} {e : va_E}, k ≠ 12 → c2F cI cL cC um us ug uL uQ uZ vm vs vg vL0 vQ vZ t k e → c2F cI cL cC um us ug uL' uQ uZ vm vs vg vL0 vQ vZ t k e
  | 0, _, _, h => h
  | 1, _, _, h => h
  | 2, _, _, h => h
  | 3, _, _, h => h
  | 4, _, _, h => h
  | 5, _, _, h => h
  | 6, _, _, h => h
  | 7, _, _, h => h
  | 8, _, _, h => h
  | 9, _, _, h => h
  | 10, _, _, h => h
  | 11, _, _, h => h
  | 12, _, hk, _ => absurd rfl hk
  | 13, _, _, h => h
  | 14, _, _, h => h
  | 15, _, _, h => h
  | 16, _, _, h => h
  | 17, _, _, h => h
  | 18, _, _, h => h
  | 19, _, _, h => h
  | 20, _, _, h => h
  | 21, _, _, h => h
  | 22, _, _, h => h
  | 23, _, _, h => h
  | 24, _, _, h => h
  | 25, _, _, h => h
  | 26, _, _, h => h
  | 27, _, _, h => h
  | 28, _, _, h => h
  | 29, _, _, h => h
  | 30, _, _, h => h
  | 31, _, _, h => h
  | 32, _, _, h => h
  | 33, _, _, h => h
  | 34, _, _, h => h
  | 35, _, _, h => h
  | 36, _, _, h => h
  | 37, _, _, h => h
  | 38, _, _, h => h
  | 39, _, _, h => h
  | 40, _, _, h => h
  | _ + 41, _, _, h => h
theorem c2F_uQ {cI cL cC : ClassId} {um : Int32} {us : Int32} {ug : Int32} {uL : Nat → Int32} {uQ : Nat → Int32} {uZ : Nat → Int32} {vm : Int32} {vs : Int32} {vg : Int32} {vL0 : Nat → Int32} {vQ : Nat → Int32} {vZ : Nat → Int32} {uQ' : Nat → Int32} {t : Nat → Nat} : ∀ {k : Nat} {e : va_E}, k ≠ 13 → c2F cI cL cC um us ug uL uQ uZ vm vs vg vL0 vQ vZ t k e → c2F cI cL cC um us ug uL uQ' uZ vm vs vg vL0 vQ vZ t k e
  | 0, _, _, h => h
  | 1, _, _, h => h
  | 2, _, _, h => h
  | 3, _, _, h => h
  | 4, _, _, h => h
  | 5, _, _, h => h
  | 6, _, _, h => h
  | 7, _, _, h => h
  | 8, _, _, h => h
  | 9, _, _, h => h
  | 10, _, _, h => h
  | 11, _, _, h => h
  | 12, _, _, h => h
  | 13, _, hk, _ => absurd rfl hk
  | 14, _, _, h => h
  | 15, _, _, h => h
  | 16, _, _, h => h
  | 17, _, _, h => h
  | 18, _, _, h => h
  | 19, _, _, h => h
  | 20, _, _, h => h
  | 21, _, _, h => h
  | 22, _, _, h => h
  | 23, _, _, h => h
  | 24, _, _, h => h
  | 25, _, _, h => h
  | 26, _, _, h => h
  | 27, _, _, h => h
  | 28, _, _, h => h
  | 29, _, _, h => h
  | 30, _, _, h => h
  | 31, _, _, h => h
  | 32, _, _, h => h
  | 33, _, _, h => h
  | 34, _, _, h => h
  | 35, _, _, h => h
  | 36, _, _, h => h
  | 37, _, _, h => h
  | 38, _, _, h => h
  | 39, _, _, h => h
  | 40, _, _, h => h
  | _ + 41, _, _, h => h
theorem c2F_uZ {cI cL cC : ClassId} {um : Int32} {us : Int32} {ug : Int32} {uL : Nat → Int32} {uQ : Nat → Int32} {uZ : Nat → Int32} {vm : Int32} {vs : Int32} {vg : Int32} {vL0 : Nat → Int32} {vQ : Nat → Int32} {vZ : Nat → Int32} {uZ' : Nat → Int32} {t : Nat → Nat} : ∀ {k : Nat} {e : va_E}, k ≠ 14 → c2F cI cL cC um us ug uL uQ uZ vm vs vg vL0 vQ vZ t k e → c2F cI cL cC um us ug uL uQ uZ' vm vs vg vL0 vQ vZ t k e
  | 0, _, _, h => h
  | 1, _, _, h => h
  | 2, _, _, h => h
  | 3, _, _, h => h
  | 4, _, _, h => h
  | 5, _, _, h => h
  | 6, _, _, h => h
  | 7, _, _, h => h
  | 8, _, _, h => h
  | 9, _, _, h => h
  | 10, _, _, h => h
  | 11, _, _, h => h
  | 12, _, _, h => h
  | 13, _, _, h => h
  | 14, _, hk, _ => absurd rfl hk
  | 15, _, _, h => h
  | 16, _, _, h => h
  | 17, _, _, h => h
  | 18, _, _, h => h
  | 19, _, _, h => h
  | 20, _, _, h => h
  | 21, _, _, h => h
  | 22, _, _, h => h
  | 23, _, _, h => h
  | 24, _, _, h => h
  | 25, _, _, h => h
  | 26, _, _, h => h
  | 27, _, _, h => h
  | 28, _, _, h => h
  | 29, _, _, h => h
  | 30, _, _, h => h
  | 31, _, _, h => h
  | 32, _, _, h => h
  | 33, _, _, h => h
  | 34, _, _, h => h
  | 35, _, _, h => h
  | 36, _, _, h => h
  | 37, _, _, h => h
  | 38, _, _, h => h
  | 39, _, _, h => h
  | 40, _, _, h => h
  | _ + 41, _, _, h => h
theorem c2F_vm {cI cL cC : ClassId} {um : Int32} {us : Int32} {ug : Int32} {uL : Nat → Int32} {uQ : Nat → Int32} {uZ : Nat → Int32} {vm : Int32} {vs : Int32} {vg : Int32} {vL0 : Nat → Int32} {vQ : Nat → Int32} {vZ : Nat → Int32} {vm' : Int32} {t : Nat → Nat} : ∀ {k : Nat} {e : va_E}, k ≠ 37 → c2F cI cL cC um us ug uL uQ uZ vm vs vg vL0 vQ vZ t k e → c2F cI cL cC um us ug uL uQ uZ vm' vs vg vL0 vQ vZ t k e
  | 0, _, _, h => h
  | 1, _, _, h => h
  | 2, _, _, h => h
  | 3, _, _, h => h
  | 4, _, _, h => h
  | 5, _, _, h => h
  | 6, _, _, h => h
  | 7, _, _, h => h
  | 8, _, _, h => h
  | 9, _, _, h => h
  | 10, _, _, h => h
  | 11, _, _, h => h
  | 12, _, _, h => h
  | 13, _, _, h => h
  | 14, _, _, h => h
  | 15, _, _, h => h
  | 16, _, _, h => h
  | 17, _, _, h => h
  | 18, _, _, h => h
  | 19, _, _, h => h
  | 20, _, _, h => h
  | 21, _, _, h => h
  | 22, _, _, h => h
  | 23, _, _, h => h
  | 24, _, _, h => h
  | 25, _, _, h => h
  | 26, _, _, h => h
  | 27, _, _, h => h
  | 28, _, _, h => h
  | 29, _, _, h => h
  | 30, _, _, h => h
  | 31, _, _, h => h
  | 32, _, _, h => h
  | 33, _, _, h => h
  | 34, _, _, h => h
  | 35, _, _, h => h
  | 36, _, _, h => h
  | 37, _, hk, _ => absurd rfl hk
  | 38, _, _, h => h
  | 39, _, _, h => h
  | 40, _, _, h => h
  | _ + 41, _, _, h => h
theorem c2F_vs {cI cL cC : ClassId} {um : Int32} {us : Int32} {ug : Int32} {uL : Nat → Int32} {uQ : Nat → Int32} {uZ : Nat → Int32} {vm : Int32} {vs : Int32} {vg : Int32} {vL0 : Nat → Int32} {vQ : Nat → Int32} {vZ : Nat → Int32} {vs' : Int32} {t : Nat → Nat} : ∀ {k : Nat} {e : va_E}, k ≠ 37 → c2F cI cL cC um us ug uL uQ uZ vm vs vg vL0 vQ vZ t k e → c2F cI cL cC um us ug uL uQ uZ vm vs' vg vL0 vQ vZ t k e
  | 0, _, _, h => h
  | 1, _, _, h => h
  | 2, _, _, h => h
  | 3, _, _, h => h
  | 4, _, _, h => h
  | 5, _, _, h => h
  | 6, _, _, h => h
  | 7, _, _, h => h
  | 8, _, _, h => h
  | 9, _, _, h => h
  | 10, _, _, h => h
  | 11, _, _, h => h
  | 12, _, _, h => h
  | 13, _, _, h => h
  | 14, _, _, h => h
  | 15, _, _, h => h
  | 16, _, _, h => h
  | 17, _, _, h => h
  | 18, _, _, h => h
  | 19, _, _, h => h
  | 20, _, _, h => h
  | 21, _, _, h => h
  | 22, _, _, h => h
  | 23, _, _, h => h
  | 24, _, _, h => h
  | 25, _, _, h => h
  | 26, _, _, h => h
  | 27, _, _, h => h
  | 28, _, _, h => h
  | 29, _, _, h => h
  | 30, _, _, h => h
  | 31, _, _, h => h
  | 32, _, _, h => h
  | 33, _, _, h => h
  | 34, _, _, h => h
  | 35, _, _, h => h
  | 36, _, _, h => h
  | 37, _, hk, _ => absurd rfl hk
  | 38, _, _, h => h
  | 39, _, _, h => h
  | 40, _, _, h => h
  | _ + 41, _, _, h => h
theorem c2F_vg {cI cL cC : ClassId} {um : Int32} {us : Int32} {ug : Int32} {uL : Nat → Int32} {uQ : Nat → Int32} {uZ : Nat → Int32} {vm : Int32} {vs : Int32} {vg : Int32} {vL0 : Nat → Int32} {vQ : Nat → Int32} {vZ : Nat → Int32} {vg' : Int32} {t : Nat → Nat} : ∀ {k : Nat} {e : va_E}, k ≠ 37 → c2F cI cL cC um us ug uL uQ uZ vm vs vg vL0 vQ vZ t k e → c2F cI cL cC um us ug uL uQ uZ vm vs vg' vL0 vQ vZ t k e
  | 0, _, _, h => h
  | 1, _, _, h => h
  | 2, _, _, h => h
  | 3, _, _, h => h
  | 4, _, _, h => h
  | 5, _, _, h => h
  | 6, _, _, h => h
  | 7, _, _, h => h
  | 8, _, _, h => h
  | 9, _, _, h => h
  | 10, _, _, h => h
  | 11, _, _, h => h
  | 12, _, _, h => h
  | 13, _, _, h => h
  | 14, _, _, h => h
  | 15, _, _, h => h
  | 16, _, _, h => h
  | 17, _, _, h => h
  | 18, _, _, h => h
  | 19, _, _, h => h
  | 20, _, _, h => h
  | 21, _, _, h => h
  | 22, _, _, h => h
  | 23, _, _, h => h
  | 24, _, _, h => h
  | 25, _, _, h => h
  | 26, _, _, h => h
  | 27, _, _, h => h
  | 28, _, _, h => h
  | 29, _, _, h => h
  | 30, _, _, h => h
  | 31, _, _, h => h
  | 32, _, _, h => h
  | 33, _, _, h => h
  | 34, _, _, h => h
  | 35, _, _, h => h
  | 36, _, _, h => h
  | 37, _, hk, _ => absurd rfl hk
  | 38, _, _, h => h
  | 39, _, _, h => h
  | 40, _, _, h => h
  | _ + 41, _, _, h => h
theorem c2F_vL0 {cI cL cC : ClassId} {um : Int32} {us : Int32} {ug : Int32} {uL : Nat → Int32} {uQ : Nat → Int32} {uZ : Nat → Int32} {vm : Int32} {vs : Int32} {vg : Int32} {vL0 : Nat → Int32} {vQ : Nat → Int32} {vZ : Nat → Int32} {vL0' : Nat → Int32} {t : Nat → Nat} : ∀ {k : Nat} {e : va_E}, k ≠ 38 → c2F cI cL cC um us ug uL uQ uZ vm vs vg vL0 vQ vZ t k e → c2F cI cL cC um us ug uL uQ uZ vm vs vg vL0' vQ vZ t k e
  | 0, _, _, h => h
  | 1, _, _, h => h
  | 2, _, _, h => h
  | 3, _, _, h => h
  | 4, _, _, h => h
  | 5, _, _, h => h
  | 6, _, _, h => h
  | 7, _, _, h => h
  | 8, _, _, h => h
  | 9, _, _, h => h
  | 10, _, _, h => h
  | 11, _, _, h => h
  | 12, _, _, h => h
  | 13, _, _, h => h
  | 14, _, _, h => h
  | 15, _, _, h => h
  | 16, _, _, h => h
  | 17, _, _, h => h
  | 18, _, _, h => h
  | 19, _, _, h => h
  | 20, _, _, h => h
  | 21, _, _, h => h
  | 22, _, _, h => h
  | 23, _, _, h => h
  | 24, _, _, h => h
  | 25, _, _, h => h
  | 26, _, _, h => h
  | 27, _, _, h => h
  | 28, _, _, h => h
  | 29, _, _, h => h
  | 30, _, _, h => h
  | 31, _, _, h => h
  | 32, _, _, h => h
  | 33, _, _, h => h
  | 34, _, _, h => h
  | 35, _, _, h => h
  | 36, _, _, h => h
  | 37, _, _, h => h
  | 38, _, hk, _ => absurd rfl hk
  | 39, _, _, h => h
  | 40, _, _, h => h
  | _ + 41, _, _, h => h
theorem c2F_vQ {cI cL cC : ClassId} {um : Int32} {us : Int32} {ug : Int32} {uL : Nat → Int32} {uQ : Nat → Int32} {uZ : Nat → Int32} {vm : Int32} {vs : Int32} {vg : Int32} {vL0 : Nat → Int32} {vQ : Nat → Int32} {vZ : Nat → Int32} {vQ' : Nat → Int32} {t : Nat → Nat} : ∀ {k : Nat} {e : va_E}, k ≠ 39 → c2F cI cL cC um us ug uL uQ uZ vm vs vg vL0 vQ vZ t k e → c2F cI cL cC um us ug uL uQ uZ vm vs vg vL0 vQ' vZ t k e
  | 0, _, _, h => h
  | 1, _, _, h => h
  | 2, _, _, h => h
  | 3, _, _, h => h
  | 4, _, _, h => h
  | 5, _, _, h => h
  | 6, _, _, h => h
  | 7, _, _, h => h
  | 8, _, _, h => h
  | 9, _, _, h => h
  | 10, _, _, h => h
  | 11, _, _, h => h
  | 12, _, _, h => h
  | 13, _, _, h => h
  | 14, _, _, h => h
  | 15, _, _, h => h
  | 16, _, _, h => h
  | 17, _, _, h => h
  | 18, _, _, h => h
  | 19, _, _, h => h
  | 20, _, _, h => h
  | 21, _, _, h => h
  | 22, _, _, h => h
  | 23, _, _, h => h
  | 24, _, _, h => h
  | 25, _, _, h => h
  | 26, _, _, h => h
  | 27, _, _, h => h
  | 28, _, _, h => h
  | 29, _, _, h => h
  | 30, _, _, h => h
  | 31, _, _, h => h
  | 32, _, _, h => h
  | 33, _, _, h => h
  | 34, _, _, h => h
  | 35, _, _, h => h
  | 36, _, _, h => h
  | 37, _, _, h => h
  | 38, _, _, h => h
  | 39, _, hk, _ => absurd rfl hk
  | 40, _, _, h => h
  | _ + 41, _, _, h => h
theorem c2F_vZ {cI cL cC : ClassId} {um : Int32} {us : Int32} {ug : Int32} {uL : Nat → Int32} {uQ : Nat → Int32} {uZ : Nat → Int32} {vm : Int32} {vs : Int32} {vg : Int32} {vL0 : Nat → Int32} {vQ : Nat → Int32} {vZ : Nat → Int32} {vZ' : Nat → Int32} {t : Nat → Nat} : ∀ {k : Nat} {e : va_E}, k ≠ 40 → c2F cI cL cC um us ug uL uQ uZ vm vs vg vL0 vQ vZ t k e → c2F cI cL cC um us ug uL uQ uZ vm vs vg vL0 vQ vZ' t k e
  | 0, _, _, h => h
  | 1, _, _, h => h
  | 2, _, _, h => h
  | 3, _, _, h => h
  | 4, _, _, h => h
  | 5, _, _, h => h
  | 6, _, _, h => h
  | 7, _, _, h => h
  | 8, _, _, h => h
  | 9, _, _, h => h
  | 10, _, _, h => h
  | 11, _, _, h => h
  | 12, _, _, h => h
  | 13, _, _, h => h
  | 14, _, _, h => h
  | 15, _, _, h => h
  | 16, _, _, h => h
  | 17, _, _, h => h
  | 18, _, _, h => h
  | 19, _, _, h => h
  | 20, _, _, h => h
  | 21, _, _, h => h
  | 22, _, _, h => h
  | 23, _, _, h => h
  | 24, _, _, h => h
  | 25, _, _, h => h
  | 26, _, _, h => h
  | 27, _, _, h => h
  | 28, _, _, h => h
  | 29, _, _, h => h
  | 30, _, _, h => h
  | 31, _, _, h => h
  | 32, _, _, h => h
  | 33, _, _, h => h
  | 34, _, _, h => h
  | 35, _, _, h => h
  | 36, _, _, h => h
  | 37, _, _, h => h
  | 38, _, _, h => h
  | 39, _, _, h => h
  | 40, _, hk, _ => absurd rfl hk
  | _ + 41, _, _, h => h
