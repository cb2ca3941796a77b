/-! THE TEXT read: what both readers must find. B: the byte at a place, -1 behind the end. Own rows. -/
def byT (T : Nat → Int32) (n : Int32) (p : Int) : Int := if p < n.toInt then (T p.toNat).toInt else -1
def dgB (b : Int) : Prop := 48 ≤ b ∧ b ≤ 57
def vlB (B : Int → Int) (p : Int) : Nat → Int32
  | 0 => 0
  | k + 1 => vlB B p k * 10 + Int32.ofInt (B (p + k)) - 48
/-- a number behind a comma at p: 1 to 7 figures, e where it ends -/
def numAt (B : Int → Int) (p e : Int) (v : Int32) : Prop := ∃ d : Nat, 1 ≤ d ∧ d ≤ 7 ∧ e = p + 1 + d ∧ B p = 44 ∧ (∀ j : Nat, j < d → dgB (B (p + 1 + j))) ∧ ¬ dgB (B (p + 1 + d)) ∧ v = vlB B (p + 1) d
def noNum (B : Int → Int) (p : Int) : Prop := ∀ (e : Int) (v : Int32), ¬ numAt B p e v
theorem numAt.uq {B : Int → Int} {p e e' : Int} {v v' : Int32} (h : numAt B p e v) (h' : numAt B p e' v') : e = e' ∧ v = v' := by
  obtain ⟨d, h1, h2, h3, h4, h5, h6, h7⟩ := h
  obtain ⟨d', g1, g2, g3, g4, g5, g6, g7⟩ := h'
  have hd : d = d' := by
    rcases Nat.lt_trichotomy d d' with q | q | q
    · exact absurd (g5 d q) h6
    · exact q
    · exact absurd (h5 d' q) g6
  subst hd
  exact ⟨by omega, by rw [h7, g7]⟩
theorem noNum.of44 {B : Int → Int} {p : Int} (h : B p ≠ 44) : noNum B p := fun e v ⟨d, _, _, _, h4, _, _, _⟩ => h h4
theorem noNum.of0 {B : Int → Int} {p : Int} (h : ¬ dgB (B (p + 1))) : noNum B p := fun e v ⟨d, h1, _, _, _, h5, _, _⟩ => h (by have := h5 0 (by omega); rw [show p + 1 + ((0 : Nat) : Int) = p + 1 by omega] at this; exact this)
/-- all of the first d are figures -/
def figs (B : Int → Int) (p : Int) (d : Int) : Prop := ∀ j : Int, 0 ≤ j → j < d → dgB (B (p + j))
theorem figs.zero {B : Int → Int} {p : Int} : figs B p 0 := fun j h0 h1 => by omega
theorem figs.step {B : Int → Int} {p d d' : Int} (h : figs B p d) (hd : dgB (B (p + d))) (e : d' = d + 1) : figs B p d' := fun j h0 h1 => by
  by_cases q : j = d
  · rw [q]; exact hd
  · exact h j h0 (by omega)
theorem noNum.of8 {B : Int → Int} {p d : Int} (h : figs B (p + 1) d) (hd : 8 ≤ d) : noNum B p := fun e v ⟨k, h1, h2, h3, h4, h5, h6, h7⟩ => h6 (h k (by omega) (by omega))
theorem numAt.of {B : Int → Int} {p e : Int} {v : Int32} {d : Int} (h4 : B p = 44) (h : figs B (p + 1) d) (h1 : 1 ≤ d) (h7 : d ≤ 7) (he : e = p + 1 + d) (hn : ¬ dgB (B e)) (hv : v = vlB B (p + 1) d.toNat) : numAt B p e v :=
  ⟨d.toNat, by omega, by omega, by omega, h4, fun j hj => h j (by omega) (by omega), by rw [show p + 1 + (d.toNat : Int) = e by omega]; exact hn, hv⟩
theorem vlB.step {B : Int → Int} {p d d' : Int} {v b v' : Int32} (h0 : 0 ≤ d) (hv : v = vlB B p d.toNat) (hb : b.toInt = B (p + d)) (e : d' = d + 1) (hv' : v' = v * 10 + b - 48) : v' = vlB B p d'.toNat := by
  subst e
  rw [show (d + 1).toNat = d.toNat + 1 by omega, hv', hv]
  show _ = vlB B p d.toNat * 10 + Int32.ofInt (B (p + d.toNat)) - 48
  rw [show p + (d.toNat : Int) = p + d by omega, ← hb, Int32.ofInt_toInt]
/-- what the class's reader of a number leaves: the number, or no number and a figure ahead -/
def numC (B : Int → Int) (p e : Int) (R R' : Nat → Int32) (c : Nat) : Prop := ∃ v : Int32, R' = upd R c v ∧ (numAt B p e v ∨ (noNum B p ∧ dgB (B e)))
def numR (B : Int → Int) (p e : Int) (R R' : Nat → Int32) (c : Nat) : Prop := ∃ v : Int32, numAt B p e v ∧ R' = upd R c v
theorem numC.of {B : Int → Int} {p e : Int} {R R' : Nat → Int32} {c : Nat} {v : Int32} {d : Int} (h4 : B p = 44) (h : figs B (p + 1) d) (h1 : 1 ≤ d) (h7 : d ≤ 7) (he : e = p + 1 + d) (hs : d = 7 ∨ ¬ dgB (B e)) (hv : v = vlB B (p + 1) d.toNat) (hR : R' = upd R c v) : numC B p e R R' c := by
  by_cases hn : dgB (B e)
  · refine ⟨v, hR, Or.inr ⟨?_, hn⟩⟩
    have h8 : d = 7 := hs.resolve_right (fun q => q hn)
    exact noNum.of8 (h.step (d' := d + 1) (by rw [← he]; exact hn) rfl) (by omega)
  · exact ⟨v, hR, Or.inl (numAt.of h4 h h1 h7 he hn hv)⟩
/-- m numbers one behind the other from q on -/
def nums (B : Int → Int) (q m : Int) (a b c : Int32) (e : Int) : Prop := (m = 0 ∧ e = q ∧ a = -4 ∧ b = -4 ∧ c = -4) ∨ (m = 1 ∧ numAt B q e a ∧ b = -4 ∧ c = -4) ∨ (m = 2 ∧ (∃ q1 : Int, numAt B q q1 a ∧ numAt B q1 e b) ∧ c = -4) ∨ (m = 3 ∧ ∃ q1 q2 : Int, numAt B q q1 a ∧ numAt B q1 q2 b ∧ numAt B q2 e c)
theorem nums.uq {B : Int → Int} {q m : Int} {a b c a' b' c' : Int32} {e e' : Int} (h : nums B q m a b c e) (h' : nums B q m a' b' c' e') : e = e' ∧ a = a' ∧ b = b' ∧ c = c' := by
  rcases h with ⟨m0, h1, h2, h3, h4⟩ | ⟨m0, h1, h2, h3⟩ | ⟨m0, ⟨q1, h1, h2⟩, h3⟩ | ⟨m0, q1, q2, h1, h2, h3⟩ <;> rcases h' with ⟨n0, g1, g2, g3, g4⟩ | ⟨n0, g1, g2, g3⟩ | ⟨n0, ⟨r1, g1, g2⟩, g3⟩ | ⟨n0, r1, r2, g1, g2, g3⟩ <;> first | (exfalso; omega) | skip
  · exact ⟨by omega, by rw [h2, g2], by rw [h3, g3], by rw [h4, g4]⟩
  · have := h1.uq g1
    exact ⟨this.1, this.2, by rw [h2, g2], by rw [h3, g3]⟩
  · have e1 := h1.uq g1
    rw [e1.1] at h2
    have e2 := h2.uq g2
    exact ⟨e2.1, e1.2, e2.2, by rw [h3, g3]⟩
  · have e1 := h1.uq g1
    rw [e1.1] at h2
    have e2 := h2.uq g2
    rw [e2.1] at h3
    have e3 := h3.uq g3
    exact ⟨e3.1, e1.2, e2.2, e3.2⟩
/-- a row of three from o on -/
def numsR (B : Int → Int) (q m : Int) (o : Nat) (R : Nat → Int32) (e : Int) : Prop := nums B q m (R o) (R (o + 1)) (R (o + 2)) e
theorem numsR.zero {B : Int → Int} {q e : Int} {o : Nat} {R : Nat → Int32} (h0 : R o = -4) (h1 : R (o + 1) = -4) (h2 : R (o + 2) = -4) (e0 : e = q) : numsR B q 0 o R e := Or.inl ⟨rfl, e0, h0, h1, h2⟩
theorem numsR.step {B : Int → Int} {q m m' e e' : Int} {o : Nat} {R R' : Nat → Int32} {i : Nat} (h : numsR B q m o R e) (hn : numR B e e' R R' i) (hi : (i : Int) = o + m) (hm3 : m < 3) (hm : m' = m + 1) : numsR B q m' o R' e' := by
  subst hm
  obtain ⟨v, hv, rfl⟩ := hn
  unfold numsR at *
  rcases h with ⟨m0, h1, h2, h3, h4⟩ | ⟨m0, h1, h2, h3⟩ | ⟨m0, ⟨q1, h1, h2⟩, h3⟩ | ⟨m0, q1, q2, h1, h2, h3⟩
  · subst m0; subst h1
    have hi : i = o := by omega
    subst hi
    rw [pk_us, pk_un (by omega), pk_un (by omega)]
    exact Or.inr (Or.inl ⟨by omega, hv, h3, h4⟩)
  · subst m0
    have hi : i = o + 1 := by omega
    subst hi
    rw [pk_us, pk_un (by omega), pk_un (by omega)]
    exact Or.inr (Or.inr (Or.inl ⟨by omega, ⟨e, h1, hv⟩, h3⟩))
  · subst m0
    have hi : i = o + 2 := by omega
    subst hi
    rw [pk_us, pk_un (by omega), pk_un (by omega)]
    exact Or.inr (Or.inr (Or.inr ⟨by omega, q1, e, h1, h2, hv⟩))
  · omega
/-- the m-th number is none: no more than m -/
def noNums (B : Int → Int) (q m : Int) : Prop := ∀ (k : Int) (a b c : Int32) (e : Int), m < k → ¬ nums B q k a b c e
theorem noNums.of {B : Int → Int} {q m e : Int} {a b c : Int32} (h : nums B q m a b c e) (hn : noNum B e) : noNums B q m := fun k a' b' c' e' hk h' => by
  rcases h with ⟨m0, h1, h2, h3, h4⟩ | ⟨m0, h1, h2, h3⟩ | ⟨m0, ⟨q1, h1, h2⟩, h3⟩ | ⟨m0, q1, q2, h1, h2, h3⟩ <;> rcases h' with ⟨n0, g1, g2, g3, g4⟩ | ⟨n0, g1, g2, g3⟩ | ⟨n0, ⟨r1, g1, g2⟩, g3⟩ | ⟨n0, r1, r2, g1, g2, g3⟩ <;> first | (exfalso; omega) | skip
  · rw [h1] at hn; exact hn _ _ g1
  · rw [h1] at hn; exact hn _ _ g1
  · rw [h1] at hn; exact hn _ _ g1
  · rw [(h1.uq g1).1] at hn; exact hn _ _ g2
  · rw [(h1.uq g1).1] at hn; exact hn _ _ g2
  · rw [(h1.uq g1).1] at h2; rw [(h2.uq g2).1] at hn; exact hn _ _ g3
theorem noNums.mono {B : Int → Int} {q m m' : Int} (h : noNums B q m) (hm : m ≤ m') : noNums B q m' := fun k a b c e hk => h k a b c e (by omega)
/-- what the class's reader holds ahead of the m-th number: m numbers, or a figure where it stands and no way on -/
def numsC (B : Int → Int) (q m : Int) (R : Nat → Int32) (e : Int) : Prop := numsR B q m 3 R e ∨ (dgB (B e) ∧ ∃ m0 : Int, m0 < m ∧ noNums B q m0)
theorem numsC.step {B : Int → Int} {q m m' e e' : Int} {R R' : Nat → Int32} {i : Nat} (h : numsC B q m R e) (hn : numC B e e' R R' i) (hi : (i : Int) = 3 + m) (h3 : m < 3) (hm : m' = m + 1) : numsC B q m' R' e' := by
  obtain ⟨v, hR, hn⟩ := hn
  rcases h with h | ⟨hd, m0, h0, hx⟩
  · rcases hn with hn | ⟨hn, hd⟩
    · exact Or.inl (numsR.step h ⟨v, hn, hR⟩ (by omega) h3 hm)
    · exact Or.inr ⟨hd, m, by omega, noNums.of h hn⟩
  · rcases hn with hv | ⟨hn, hd'⟩
    · obtain ⟨d, _, _, _, h44, _, _, _⟩ := hv
      exact absurd hd (by rw [h44]; unfold dgB; omega)
    · exact Or.inr ⟨hd', m0, by omega, hx⟩
theorem numsC.no {B : Int → Int} {q m e : Int} {R : Nat → Int32} (h : numsC B q m R e) (hn : noNum B e) : noNums B q m := by
  rcases h with h | ⟨hd, m0, h0, hx⟩
  · exact noNums.of h hn
  · exact hx.mono (by omega)
/-! ITEMS -/
def shp (k : Int) : Int := if k = 115 then 12 else if k = 108 then 23 else if k = 111 then 20 else if k = 109 ∨ k = 103 ∨ k = 116 then 21 else if k = 114 ∨ k = 110 ∨ k = 101 then 11 else if k = 122 then 10 else -1
def nmB (b : Int) : Prop := 97 ≤ b ∧ b ≤ 112
/-- the NAMES: q where they end -/
def names (B : Int → Int) (p : Int) (f s : Int32) (q : Int) : Prop := nmB (B (p + 1)) ∧ f.toInt = B (p + 1) - 97 ∧ ((shp (B p) < 20 ∧ s.toInt = -4 ∧ q = p + 2) ∨ (20 ≤ shp (B p) ∧ nmB (B (p + 2)) ∧ s.toInt = B (p + 2) - 97 ∧ q = p + 3))
def itemAt (B : Int → Int) (p : Int) (k f s a b c : Int32) (e : Int) : Prop := k.toInt = B p ∧ 10 ≤ shp (B p) ∧ ∃ q q' : Int, names B p f s q ∧ nums B q (shp (B p) % 10) a b c q' ∧ B q' = 59 ∧ e = q' + 1
def noItem (B : Int → Int) (p : Int) : Prop := ∀ (k f s a b c : Int32) (e : Int), ¬ itemAt B p k f s a b c e
theorem names.uq {B : Int → Int} {p q q' : Int} {f s f' s' : Int32} (h : names B p f s q) (h' : names B p f' s' q') : f = f' ∧ s = s' ∧ q = q' := by
  obtain ⟨h1, h2, h3⟩ := h
  obtain ⟨g1, g2, g3⟩ := h'
  refine ⟨Int32.toInt_inj.mp (by omega), ?_, ?_⟩
  · rcases h3 with ⟨x1, x2, x3⟩ | ⟨x1, x2, x3, x4⟩ <;> rcases g3 with ⟨y1, y2, y3⟩ | ⟨y1, y2, y3, y4⟩ <;> first | (exfalso; omega) | (exact Int32.toInt_inj.mp (by omega))
  · rcases h3 with ⟨x1, x2, x3⟩ | ⟨x1, x2, x3, x4⟩ <;> rcases g3 with ⟨y1, y2, y3⟩ | ⟨y1, y2, y3, y4⟩ <;> omega
theorem itemAt.uq {B : Int → Int} {p e e' : Int} {k f s a b c k' f' s' a' b' c' : Int32} (h : itemAt B p k f s a b c e) (h' : itemAt B p k' f' s' a' b' c' e') : k = k' ∧ f = f' ∧ s = s' ∧ a = a' ∧ b = b' ∧ c = c' ∧ e = e' := by
  obtain ⟨h1, h2, q, r, h3, h4, h5, h6⟩ := h
  obtain ⟨g1, g2, q', r', g3, g4, g5, g6⟩ := h'
  obtain ⟨n1, n2, n3⟩ := h3.uq g3
  subst n3
  obtain ⟨m1, m2, m3, m4⟩ := h4.uq g4
  exact ⟨Int32.toInt_inj.mp (by omega), n1, n2, m2, m3, m4, by omega⟩
theorem noItem.shape {B : Int → Int} {p : Int} (h : shp (B p) < 10) : noItem B p := fun k f s a b c e q => by have := q.2.1; omega
theorem noItem.name1 {B : Int → Int} {p : Int} (h : ¬ nmB (B (p + 1))) : noItem B p := fun k f s a b c e ⟨_, _, q, r, hn, _⟩ => h hn.1
theorem noItem.name2 {B : Int → Int} {p : Int} (h2 : 20 ≤ shp (B p)) (h : ¬ nmB (B (p + 2))) : noItem B p := fun k f s a b c e ⟨_, _, q, r, ⟨_, _, hn⟩, _⟩ => by
  rcases hn with ⟨x1, _, _⟩ | ⟨_, x2, _, _⟩
  · omega
  · exact h x2
theorem noItem.numN {B : Int → Int} {p q m : Int} {f s : Int32} (hn : names B p f s q) (h : noNums B q m) (hm : m < shp (B p) % 10) : noItem B p := fun k f' s' a b c e ⟨_, _, q', r, hn', h', _⟩ => by
  obtain ⟨_, _, e1⟩ := hn.uq hn'
  subst e1
  exact h _ _ _ _ _ hm h'
theorem noItem.last {B : Int → Int} {p q r : Int} {f s a b c : Int32} (hn : names B p f s q) (h : nums B q (shp (B p) % 10) a b c r) (hm : B r ≠ 59) : noItem B p := fun k f' s' a' b' c' e ⟨_, _, q', r', hn', h', h5, _⟩ => by
  obtain ⟨_, _, e1⟩ := hn.uq hn'
  subst e1
  obtain ⟨e2, _⟩ := h.uq h'
  subst e2
  exact hm h5
theorem noItem.lastC {B : Int → Int} {p q r m : Int} {f s : Int32} {R : Nat → Int32} (hn : names B p f s q) (h : numsC B q m R r) (hm : shp (B p) % 10 = m) (h5 : B r ≠ 59) : noItem B p := by
  subst hm
  rcases h with h | ⟨hd, m0, h0, hx⟩
  · exact noItem.last hn h h5
  · exact noItem.numN hn hx h0
theorem itemAt.ofC {B : Int → Int} {p q r m : Int} {k f s : Int32} {R : Nat → Int32} (hk : k.toInt = B p) (h1 : 10 ≤ shp (B p)) (hn : names B p f s q) (h : numsC B q m R r) (hm : shp (B p) % 10 = m) (h5 : B r = 59) : itemAt B p k f s (R 3) (R 4) (R 5) (r + 1) := by
  subst hm
  rcases h with h | ⟨hd, m0, h0, hx⟩
  · exact ⟨hk, h1, q, r, hn, h, h5, rfl⟩
  · exact absurd hd (by rw [h5]; unfold dgB; omega)
/-! what an ITEM may be behind others: w the NAMES told, g GATES told -/
def well (k : Int) (a b c : Int32) : Prop := (k = 115 → 0 ≤ a.toInt ∧ a.toInt ≤ 1000000 ∧ 0 ≤ b.toInt ∧ b.toInt ≤ 1000000) ∧ (k = 108 → 1 ≤ b.toInt ∧ b.toInt ≤ 1000 ∧ 0 ≤ a.toInt ∧ a.toInt ≤ b.toInt ∧ 0 ≤ c.toInt ∧ c.toInt ≤ 1000000) ∧ (k = 109 ∨ k = 101 → 0 ≤ a.toInt ∧ a.toInt ≤ 1000) ∧ (k = 103 → 0 ≤ a.toInt ∧ a.toInt ≤ 10000) ∧ (k = 116 → 1 ≤ a.toInt ∧ a.toInt ≤ 12) ∧ (k = 114 ∨ k = 110 → 0 ≤ a.toInt ∧ a.toInt ≤ 100)
def okIt (w : Int32) (g : Int) (k f s a b c : Int32) : Prop := well k.toInt a b c ∧ (k.toInt = 115 → (bitI w f).toInt ≠ 1) ∧ (k.toInt ≠ 115 → (bitI w f).toInt = 1) ∧ (s.toInt < 0 ∨ (s.toInt ≠ f.toInt ∧ (bitI w s).toInt = 1)) ∧ (k.toInt = 103 → g < 4)
def vIt (B : Int → Int) (p : Int) (w : Int32) (g : Int) (k f s a b c : Int32) (e : Int) : Prop := itemAt B p k f s a b c e ∧ okIt w g k f s a b c
def nextW (w k f : Int32) : Int32 := if k.toInt = 115 then orB w f else w
def nextG (g : Int) (k : Int32) : Int := if k.toInt = 103 then g + 1 else g
def nextC (c : Int) (k : Int32) : Int := if k.toInt = 115 then c + 1 else c
/-- j ITEMS are read from the beginning on: p where, w NAMES, g GATES, c STORES -/
def rch (B : Int → Int) (n : Int) : Nat → Int → Int32 → Int → Int → Prop
  | 0, p, w, g, c => p = 0 ∧ w = 0 ∧ g = 0 ∧ c = 0
  | j + 1, p, w, g, c => ∃ (p0 : Int) (w0 : Int32) (g0 c0 : Int) (k f s a b d : Int32), rch B n j p0 w0 g0 c0 ∧ p0 < n ∧ vIt B p0 w0 g0 k f s a b d p ∧ w = nextW w0 k f ∧ g = nextG g0 k ∧ c = nextC c0 k
theorem rch.uq {B : Int → Int} {n : Int} : ∀ {j : Nat} {p p' : Int} {w w' : Int32} {g g' c c' : Int}, rch B n j p w g c → rch B n j p' w' g' c' → p = p' ∧ w = w' ∧ g = g' ∧ c = c'
  | 0, _, _, _, _, _, _, _, _, ⟨h1, h2, h3, h4⟩, ⟨g1, g2, g3, g4⟩ => ⟨by omega, by rw [h2, g2], by omega, by omega⟩
  | j + 1, _, _, _, _, _, _, _, _, ⟨p0, w0, g0, c0, k, f, s, a, b, d, h1, h2, h3, h4, h5, h6⟩, ⟨p1, w1, g1, c1, k', f', s', a', b', d', i1, i2, i3, i4, i5, i6⟩ => by
    obtain ⟨e1, e2, e3, e4⟩ := rch.uq h1 i1
    subst e1; subst e2; subst e3; subst e4
    obtain ⟨x1, x2, x3, x4, x5, x6, x7⟩ := h3.1.uq i3.1
    subst x1; subst x2
    exact ⟨x7, by rw [h4, i4], by rw [h5, i5], by rw [h6, i6]⟩
/-- where the reading ends: j ITEMS, at p -/
def stp (B : Int → Int) (n : Int) (j : Nat) (p : Int) (w : Int32) (g c : Int) : Prop := j ≤ 40 ∧ rch B n j p w g c ∧ (n ≤ p ∨ (p < n ∧ (j = 40 ∨ ∀ (k f s a b d : Int32) (e : Int), ¬ vIt B p w g k f s a b d e)))
/-- all that is told earlier is told -/
theorem rch.pre {B : Int → Int} {n : Int} {i : Nat} : ∀ {j : Nat} {p : Int} {w : Int32} {g c : Int}, i < j → rch B n j p w g c → ∃ (p0 : Int) (w0 : Int32) (g0 c0 : Int), rch B n i p0 w0 g0 c0 ∧ p0 < n ∧ ∃ (k f s a b d : Int32) (e : Int), vIt B p0 w0 g0 k f s a b d e
  | 0, _, _, _, _, hi, _ => absurd hi (by omega)
  | j + 1, _, _, _, _, hi, ⟨p0, w0, g0, c0, k, f, s, a, b, d, h1, h2, h3, h4, h5, h6⟩ => by
    by_cases e : i = j
    · subst e
      exact ⟨p0, w0, g0, c0, h1, h2, k, f, s, a, b, d, _, h3⟩
    · exact rch.pre (by omega) h1
theorem stp.lt {B : Int → Int} {n : Int} {j j' : Nat} {p p' : Int} {w w' : Int32} {g g' c c' : Int} (h : stp B n j p w g c) (h' : stp B n j' p' w' g' c') : ¬ j < j' := fun hj => by
  obtain ⟨p0, w0, g0, c0, r0, l0, k, f, s, a, b, d, e, v0⟩ := rch.pre hj h'.2.1
  obtain ⟨e1, e2, e3, e4⟩ := h.2.1.uq r0
  subst e1; subst e2; subst e3; subst e4
  rcases h.2.2 with q | ⟨_, q | q⟩
  · omega
  · have := h'.1; omega
  · exact q _ _ _ _ _ _ _ v0
theorem stp.uq {B : Int → Int} {n : Int} {j j' : Nat} {p p' : Int} {w w' : Int32} {g g' c c' : Int} (h : stp B n j p w g c) (h' : stp B n j' p' w' g' c') : j = j' ∧ p = p' ∧ w = w' ∧ g = g' ∧ c = c' := by
  have hj : j = j' := by have := h.lt h'; have := h'.lt h; omega
  subst hj
  exact ⟨rfl, h.2.1.uq h'.2.1⟩
/-- FAULT -/
def resF (B : Int → Int) (n : Int) (r : Int32) : Prop := ∃ (j : Nat) (p : Int) (w : Int32) (g c : Int), stp B n j p w g c ∧ r.toInt = if n ≤ p then -4 else p
theorem resF.uq {B : Int → Int} {n : Int} {r r' : Int32} (h : resF B n r) (h' : resF B n r') : r = r' := by
  obtain ⟨j, p, w, g, c, h1, h2⟩ := h
  obtain ⟨j', p', w', g', c', g1, g2⟩ := h'
  obtain ⟨_, e2, _⟩ := h1.uq g1
  subst e2
  exact Int32.toInt_inj.mp (h2.trans g2.symm)
/-- BUILT: how many -/
def resB (B : Int → Int) (n : Int) (r : Int32) : Prop := ∃ (j : Nat) (p : Int) (w : Int32) (g c : Int), stp B n j p w g c ∧ r.toInt = if n ≤ p ∧ 0 < c then (j : Int) else -2
theorem resB.uq {B : Int → Int} {n : Int} {r r' : Int32} (h : resB B n r) (h' : resB B n r') : r = r' := by
  obtain ⟨j, p, w, g, c, h1, h2⟩ := h
  obtain ⟨j', p', w', g', c', g1, g2⟩ := h'
  obtain ⟨e1, e2, e3, e4, e5⟩ := h1.uq g1
  subst e1; subst e2; subst e5
  exact Int32.toInt_inj.mp (h2.trans g2.symm)
/-! numbers of the readers -/
theorem byT_in {T : Nat → Int32} {n : Int32} {p : Int} (h : p < n.toInt) : byT T n p = (T p.toNat).toInt := by unfold byT; rw [if_pos h]
theorem byT_out {T : Nat → Int32} {n : Int32} {p : Int} (h : n.toInt ≤ p) : byT T n p = -1 := by unfold byT; rw [if_neg (by omega)]
theorem byT_lt {T : Nat → Int32} {n : Int32} {p : Int} (h : byT T n p ≠ -1) : p < n.toInt := by
  by_cases q : p < n.toInt
  · exact q
  · exact absurd (byT_out (by omega)) h
def nmO (k : Int) : Int := if shp k < 10 then 0 else shp k / 10
def nbO (k : Int) : Int := if shp k < 10 then 0 else shp k % 10
theorem shp_out {k : Int} (h : k < 101 ∨ 122 < k) : shp k = -1 := by
  unfold shp
  rw [if_neg (by omega), if_neg (by omega), if_neg (by omega), if_neg (by omega), if_neg (by omega), if_neg (by omega)]
theorem nmO_out {k : Int} (h : k < 101 ∨ 122 < k) : nmO k = 0 := by unfold nmO; rw [shp_out h]; rfl
theorem nbO_out {k : Int} (h : k < 101 ∨ 116 < k) : nbO k = 0 := by
  by_cases q : k = 122
  · subst q; rfl
  · have e : shp k = -1 := by
      unfold shp
      rw [if_neg (by omega), if_neg (by omega), if_neg (by omega), if_neg (by omega), if_neg (by omega), if_neg (by omega)]
    unfold nbO; rw [e]; rfl
/-- shapes are these -/
theorem shp_cases (k : Int) : shp k = -1 ∨ shp k = 10 ∨ shp k = 11 ∨ shp k = 12 ∨ shp k = 20 ∨ shp k = 21 ∨ shp k = 23 := by
  unfold shp
  split
  · omega
  · split
    · omega
    · split
      · omega
      · split
        · omega
        · split
          · omega
          · split <;> omega
theorem shp_m1 : shp (-1) = -1 := rfl
def nmR (B : Int → Int) (p : Int) (R R' : Nat → Int32) (c : Nat) : Prop := ∃ v : Int32, v.toInt = B p - 97 ∧ R' = upd R c v
theorem noNum.ofS {B : Int → Int} {p d : Int} (h : d = 7 ∨ ¬ dgB (B (p + 1 + d))) (h0 : d = 0) : noNum B p := by
  subst h0
  rcases h with h | h
  · omega
  · exact noNum.of0 (by rw [show p + 1 + 0 = p + 1 by omega] at h; exact h)
/-- ahead of the k-th NAME -/
def nmsI (B : Int → Int) (P k p : Int) (R : Nat → Int32) : Prop := (R 0).toInt = B P ∧ (R 3 = -4 ∧ R 4 = -4 ∧ R 5 = -4) ∧ (B P ≠ -1 → p = P + 1 + k) ∧ (k ≤ 1 → R 2 = -4) ∧ (1 ≤ k → nmB (B (P + 1)) ∧ (R 1).toInt = B (P + 1) - 97) ∧ (2 ≤ k → nmB (B (P + 2)) ∧ (R 2).toInt = B (P + 2) - 97)
theorem nmsI.zero {B : Int → Int} {P p : Int} {R g : Nat → Int32} {x : Int32} (hg : ∀ j : Nat, j < 6 → g j = -4) (hR : R = upd g 0 x) (hx : x.toInt = B P) (hp : B P ≠ -1 → p = P + 1) : nmsI B P 0 p R := by
  subst hR
  refine ⟨by rw [pk_us]; exact hx, ⟨by rw [pk_un (by omega)]; exact hg 3 (by omega), by rw [pk_un (by omega)]; exact hg 4 (by omega), by rw [pk_un (by omega)]; exact hg 5 (by omega)⟩, fun q => by have := hp q; omega, fun _ => by rw [pk_un (by omega)]; exact hg 2 (by omega), fun q => by omega, fun q => by omega⟩
theorem nmsI.step {B : Int → Int} {P k k' p p' : Int} {R R' : Nat → Int32} {c : Nat} (h : nmsI B P k p R) (h0 : 0 ≤ k) (h1 : k ≤ 1) (hn : nmB (B (P + 1 + k))) (hv : nmR B (P + 1 + k) R R' c) (hc : (c : Int) = 1 + k) (hp : p' = P + 1 + k + 1) (hk : k' = k + 1) : nmsI B P k' p' R' := by
  subst hk
  obtain ⟨v, v1, rfl⟩ := hv
  obtain ⟨a1, ⟨a2, a3, a4⟩, a5, a6, a7, a8⟩ := h
  rcases (show k = 0 ∨ k = 1 by omega) with rfl | rfl
  · have hc : c = 1 := by omega
    subst hc
    rw [show P + 1 + 0 = P + 1 by omega] at hn v1
    exact ⟨by rw [pk_un (by omega)]; exact a1, ⟨by rw [pk_un (by omega)]; exact a2, by rw [pk_un (by omega)]; exact a3, by rw [pk_un (by omega)]; exact a4⟩, fun _ => by omega, fun _ => by rw [pk_un (by omega)]; exact a6 (by omega), fun _ => ⟨hn, by rw [pk_us]; exact v1⟩, fun q => by omega⟩
  · have hc : c = 2 := by omega
    subst hc
    rw [show P + 1 + 1 = P + 2 by omega] at hn v1
    exact ⟨by rw [pk_un (by omega)]; exact a1, ⟨by rw [pk_un (by omega)]; exact a2, by rw [pk_un (by omega)]; exact a3, by rw [pk_un (by omega)]; exact a4⟩, fun _ => by omega, fun q => by omega, fun _ => by rw [pk_un (by omega)]; exact a7 (by omega), fun _ => ⟨hn, by rw [pk_us]; exact v1⟩⟩
theorem nmO_pos {k n : Int} (h : n < nmO k) (h0 : 0 ≤ n) : 10 ≤ shp k ∧ n < shp k / 10 := by
  unfold nmO at h
  split at h
  · omega
  · exact ⟨by omega, h⟩
theorem nmsI.in {B : Int → Int} {P k p n : Int} {R : Nat → Int32} (h : nmsI B P k p R) (hn : n < nmO (B P)) (h0 : 0 ≤ n) : p = P + 1 + k := h.2.2.1 (fun q => by have := (nmO_pos hn h0).1; rw [q, shp_m1] at this; omega)
theorem nmsI.no {B : Int → Int} {P k : Int} (h0 : 0 ≤ k) (hk : k < nmO (B P)) (hn : ¬ nmB (B (P + 1 + k))) : noItem B P := by
  have h1 := nmO_pos hk h0
  rcases shp_cases (B P) with e | e | e | e | e | e | e <;> rw [e] at h1 <;> first | (exfalso; omega) | skip
  all_goals first
    | (have hk0 : k = 0 := by omega
       subst hk0
       exact noItem.name1 (by rw [show P + 1 + 0 = P + 1 by omega] at hn; exact hn))
    | (rcases (show k = 0 ∨ k = 1 by omega) with rfl | rfl
       · exact noItem.name1 (by rw [show P + 1 + 0 = P + 1 by omega] at hn; exact hn)
       · exact noItem.name2 (by omega) (by rw [show P + 1 + 1 = P + 2 by omega] at hn; exact hn))
theorem nmsI.nmOk {B : Int → Int} {P k p : Int} {R : Nat → Int32} (h : nmsI B P k p R) (hk : k = nmO (B P)) (hs : 10 ≤ shp (B P)) : names B P (R 1) (R 2) p := by
  obtain ⟨a1, a2, a5, a6, a7, a8⟩ := h
  have hp := a5 (fun q => by rw [q, shp_m1] at hs; omega)
  have hN : k = shp (B P) / 10 := by rw [hk]; unfold nmO; rw [if_neg (by omega)]
  have hc : shp (B P) / 10 = 1 ∧ shp (B P) < 20 ∨ shp (B P) / 10 = 2 ∧ 20 ≤ shp (B P) := by rcases shp_cases (B P) with e | e | e | e | e | e | e <;> rw [e] at hs ⊢ <;> omega
  rcases hc with ⟨c1, c2⟩ | ⟨c1, c2⟩
  · have b1 := a7 (by omega)
    exact ⟨b1.1, b1.2, Or.inl ⟨c2, by rw [a6 (by omega)]; decide, by omega⟩⟩
  · have b1 := a7 (by omega)
    have b2 := a8 (by omega)
    exact ⟨b1.1, b1.2, Or.inr ⟨c2, b2.1, b2.2, by omega⟩⟩
/-- ahead of the m-th number of an ITEM at P, whose NAMES end at q -/
def numsI (B : Int → Int) (P q m : Int) (R : Nat → Int32) (e : Int) : Prop := 10 ≤ shp (B P) → numsC B q m R e
theorem numsI.zero {B : Int → Int} {P q : Int} {R : Nat → Int32} (h : R 3 = -4 ∧ R 4 = -4 ∧ R 5 = -4) : numsI B P q 0 R q := fun _ => Or.inl (numsR.zero h.1 h.2.1 h.2.2 rfl)
theorem numsI.step {B : Int → Int} {P q m m' e e' : Int} {R R' : Nat → Int32} {i : Nat} (h : numsI B P q m R e) (hn : numC B e e' R R' i) (hi : (i : Int) = 3 + m) (h3 : m < 3) (hm : m' = m + 1) : numsI B P q m' R' e' := fun hs => (h hs).step hn hi h3 hm
/-- the NAMES stay when numbers are read -/
def sm3 (R R' : Nat → Int32) : Prop := R' 0 = R 0 ∧ R' 1 = R 1 ∧ R' 2 = R 2
theorem sm3.rf {R : Nat → Int32} : sm3 R R := ⟨rfl, rfl, rfl⟩
theorem sm3.step {B : Int → Int} {p e : Int} {R0 R R' : Nat → Int32} {c : Nat} (h : sm3 R0 R) (hn : numC B p e R R' c) (hc : 3 ≤ c) : sm3 R0 R' := by
  obtain ⟨v, rfl, _⟩ := hn
  exact ⟨by rw [pk_un (by omega)]; exact h.1, by rw [pk_un (by omega)]; exact h.2.1, by rw [pk_un (by omega)]; exact h.2.2⟩
theorem itemNo.num {B : Int → Int} {P q m p e : Int} {R R1 : Nat → Int32} (h1 : nmsI B P (nmO (B P)) q R1) (h : numsI B P q m R e) (hn : noNum B e) (hm : m < nbO (B P)) (h0 : 0 ≤ m) : noItem B P := by
  by_cases hs : 10 ≤ shp (B P)
  · have hb : nbO (B P) = shp (B P) % 10 := by unfold nbO; rw [if_neg (by omega)]
    exact noItem.numN (h1.nmOk rfl hs) ((h hs).no hn) (by omega)
  · exact noItem.shape (by omega)
theorem itemNo.last {B : Int → Int} {P q m e : Int} {R R1 : Nat → Int32} (h1 : nmsI B P (nmO (B P)) q R1) (h : numsI B P q m R e) (hm : m = nbO (B P)) (hn : nmO (B P) ≤ 0 ∨ B e ≠ 59) : noItem B P := by
  by_cases hs : 10 ≤ shp (B P)
  · have hb : nbO (B P) = shp (B P) % 10 := by unfold nbO; rw [if_neg (by omega)]
    have hc : nmO (B P) = shp (B P) / 10 := by unfold nmO; rw [if_neg (by omega)]
    exact noItem.lastC (h1.nmOk rfl hs) (h hs) (by omega) (hn.elim (fun q => absurd q (by omega)) id)
  · exact noItem.shape (by omega)
theorem itemAt.ofI {B : Int → Int} {P q m e e' : Int} {R R1 : Nat → Int32} (h1 : nmsI B P (nmO (B P)) q R1) (h : numsI B P q m R e) (h3 : sm3 R1 R) (hm : m = nbO (B P)) (hp : 0 < nmO (B P)) (hb : B e = 59) (he : e' = e + 1) : itemAt B P (R 0) (R 1) (R 2) (R 3) (R 4) (R 5) e' := by
  subst he
  have hs := (nmO_pos hp (by omega)).1
  have hbb : nbO (B P) = shp (B P) % 10 := by unfold nbO; rw [if_neg (by omega)]
  rw [h3.1, h3.2.1, h3.2.2]
  exact itemAt.ofC h1.1 hs (h1.nmOk rfl hs) (h hs) (by omega) hb
theorem tG.setx {D : va_G} {F F2 : tFT} {t : Nat → Nat} {H H1 : Heap} {a : Nat} {e : va_E} (hG : tG D F t H) (hat : va_at D vwCl (a, e) H1) (hF : F2 t (t a) e) (hFF : tG D F t H → ∀ b, b ≠ a → t b ≠ 0 → ∃ e, va_at D vwCl (b, e) H ∧ F2 t (t b) e) (oq : ∀ q : Nat, q ≠ a → H1[q]? = H[q]?) : tG D F2 t H1 := fun b hb => by
  by_cases h : b = a
  · subst h; exact ⟨e, hat, hF⟩
  · obtain ⟨e', h1, h2⟩ := hFF hG b h hb
    exact ⟨e', h1.kept (oq b h), h2⟩
theorem nbO_le (k : Int) : nbO k ≤ 3 := by
  unfold nbO
  rcases shp_cases k with e | e | e | e | e | e | e <;> rw [e] <;> decide
theorem nbO_0 (k : Int) : 0 ≤ nbO k := by
  unfold nbO
  rcases shp_cases k with e | e | e | e | e | e | e <;> rw [e] <;> decide
theorem nmO_0 (k : Int) : 0 ≤ nmO k := by
  unfold nmO
  rcases shp_cases k with e | e | e | e | e | e | e <;> rw [e] <;> decide
theorem nmO_le (k : Int) : nmO k ≤ 2 := by
  unfold nmO
  rcases shp_cases k with e | e | e | e | e | e | e <;> rw [e] <;> decide
theorem itemAt.at {B : Int → Int} {p e e' : Int} {k f s a b c : Int32} (h : itemAt B p k f s a b c e) (q : e = e') : itemAt B p k f s a b c e' := q ▸ h
theorem itemAt.nat {B : Int → Int} {p e e' : Int} {k f s a b c : Int32} (h : itemAt B p k f s a b c e) (q : e ≠ e') : ∀ (k f s a b c : Int32), ¬ itemAt B p k f s a b c e' := fun _ _ _ _ _ _ h' => q (h.uq h').2.2.2.2.2.2
/-! a MODEL of the class: L its cells (six an ITEM), Q where the STORES are -/
def hsQ (Q : Nat → Int32) (x : Int) : Prop := 0 ≤ x ∧ x ≤ 15 ∧ (Q x.toNat).toInt ≠ -4
def stA (Q : Nat → Int32) (x i : Int) : Prop := hsQ Q x ∧ (Q x.toNat).toInt < i
def nmA (Q R : Nat → Int32) (i : Int) : Prop := stA Q (R 1).toInt i ∧ ((R 2).toInt = -4 ∨ ((R 2).toInt ≠ (R 1).toInt ∧ stA Q (R 2).toInt i))
def wellR (R : Nat → Int32) : Prop := well (R 0).toInt (R 3) (R 4) (R 5)
def mayF (Q R : Nat → Int32) (m g : Int) : Prop := wellR R ∧ ((R 0).toInt = 115 → ¬ hsQ Q (R 1).toInt) ∧ ((R 0).toInt ≠ 115 → nmA Q R m ∧ ((R 0).toInt = 103 → g < 4))
/-- a stretch of n from a on is R's, the rest stays -/
def cpf (L L' : Nat → Int32) (a : Int) (R : Nat → Int32) (n : Int) : Prop := (∀ j : Int, 0 ≤ j → j < n → L' (a + j).toNat = R j.toNat) ∧ ∀ j : Int, 0 ≤ j → j < a ∨ a + n ≤ j → L' j.toNat = L j.toNat
theorem cpf.zero {L R : Nat → Int32} {a : Int} : cpf L L a R 0 := ⟨fun j h0 h1 => by omega, fun _ _ _ => rfl⟩
theorem cpf.step {L L1 L2 R : Nat → Int32} {a n n' i : Int} {x : Int32} (h : cpf L L1 a R n) (ha : 0 ≤ a) (hn : 0 ≤ n) (hx : x = R n.toNat) (hi : i = a + n) (e : L2 = upd L1 i.toNat x) (hn' : n' = n + 1) : cpf L L2 a R n' := by
  subst hn'; subst e; subst hi; subst hx
  refine ⟨fun j h0 h1 => ?_, fun j h0 h1 => ?_⟩
  · by_cases q : j = n
    · subst q; rw [pk_us]
    · rw [pk_un (by omega)]; exact h.1 j h0 (by omega)
  · rw [pk_un (by omega)]; exact h.2 j h0 (by omega)
def cellQ (L : Nat → Int32) (i w : Int) (r : Int32) : Prop := (0 ≤ i ∧ i ≤ 39 ∧ 0 ≤ w ∧ w ≤ 5 → r = L (6 * i + w).toNat) ∧ (¬ (0 ≤ i ∧ i ≤ 39 ∧ 0 ≤ w ∧ w ≤ 5) → r = -4)
def gsQ (V : Nat → Int32) (k : Int) : Prop := 0 ≤ k ∧ k ≤ 3 ∧ (V k.toNat).toInt ≠ -4
theorem cpf.at {L L' R : Nat → Int32} {a n n' : Int} (h : cpf L L' a R n) (e : n = n') : cpf L L' a R n' := e ▸ h
def nxQ (Q : Nat → Int32) (k f m : Int32) : Nat → Int32 := if k.toInt = 115 then upd Q f.toInt.toNat m else Q
def qW (Q : Nat → Int32) (w : Int32) (m : Int) : Prop := ∀ x : Int32, 0 ≤ x.toInt → x.toInt ≤ 15 → ((Q x.toInt.toNat).toInt ≠ -4 ↔ (bitI w x).toInt = 1) ∧ ((Q x.toInt.toNat).toInt ≠ -4 → 0 ≤ (Q x.toInt.toNat).toInt ∧ (Q x.toInt.toNat).toInt < m)
/-- cells and places of STORES agree -/
def mdW (L Q : Nat → Int32) (m : Int) : Prop := (∀ x : Int, hsQ Q x → 0 ≤ (Q x.toNat).toInt ∧ (Q x.toNat).toInt < m ∧ (L (6 * (Q x.toNat).toInt).toNat).toInt = 115 ∧ (L (6 * (Q x.toNat).toInt + 1).toNat).toInt = x) ∧ ∀ i : Int, 0 ≤ i → i < m → (L (6 * i).toNat).toInt = 115 → 0 ≤ (L (6 * i + 1).toNat).toInt ∧ (L (6 * i + 1).toNat).toInt ≤ 15 ∧ (Q (L (6 * i + 1).toNat).toInt.toNat).toInt = i
/-- kinds and first NAMES are those that the TEXT tells -/
def itL (B : Int → Int) (n : Int) (K F : Int → Int32) (m : Int) : Prop := ∀ i : Nat, (i : Int) < m → ∃ (p : Int) (w : Int32) (g c : Int) (s a b d : Int32) (e : Int), rch B n i p w g c ∧ itemAt B p (K i) (F i) s a b d e
theorem itL.uq {B : Int → Int} {n m : Int} {K F K' F' : Int → Int32} (h : itL B n K F m) (h' : itL B n K' F' m) {i : Nat} (hi : (i : Int) < m) : K i = K' i ∧ F i = F' i := by
  obtain ⟨p, w, g, c, s, a, b, d, e, h1, h2⟩ := h i hi
  obtain ⟨p', w', g', c', s', a', b', d', e', g1, g2⟩ := h' i hi
  obtain ⟨x1, _⟩ := h1.uq g1
  subst x1
  obtain ⟨y1, y2, _⟩ := h2.uq g2
  exact ⟨y1, y2⟩
def kL (L : Nat → Int32) : Int → Int32 := fun i => L (6 * i).toNat
def fL (L : Nat → Int32) : Int → Int32 := fun i => L (6 * i + 1).toNat
/-- the class has read j ITEMS, stands at p -/
def rdS (B : Int → Int) (n j p : Int) (L Q : Nat → Int32) (m st gt : Int) : Prop := 0 ≤ j ∧ ∃ w : Int32, rch B n j.toNat p w gt st ∧ m = j ∧ 0 ≤ gt ∧ gt ≤ 4 ∧ 0 ≤ st ∧ st ≤ j ∧ qW Q w j ∧ mdW L Q j ∧ itL B n (kL L) (fL L) j
theorem rdS.zero {B : Int → Int} {n : Int} {L Q : Nat → Int32} (hQ : ∀ j : Nat, j < 16 → Q j = -4) : rdS B n 0 0 L Q 0 0 0 := by
  have hq : ∀ x : Int, 0 ≤ x → x ≤ 15 → (Q x.toNat).toInt = -4 := fun x h0 h1 => by rw [hQ _ (by omega)]; decide
  refine ⟨by omega, 0, ⟨rfl, rfl, rfl, rfl⟩, rfl, by omega, by omega, by omega, by omega, fun x h0 h1 => ⟨⟨fun q => absurd (hq _ h0 h1) q, fun q => absurd q (bit_0 h0 h1)⟩, fun q => absurd (hq _ h0 h1) q⟩, ⟨fun x h => absurd (hq x h.1 h.2.1) h.2.2, fun i h0 h1 => by omega⟩, fun i hi => by omega⟩
theorem itemAt.nm {B : Int → Int} {p e : Int} {k f s a b c : Int32} (h : itemAt B p k f s a b c e) : 0 ≤ f.toInt ∧ f.toInt ≤ 15 ∧ (s.toInt = -4 ∨ (0 ≤ s.toInt ∧ s.toInt ≤ 15)) := by
  obtain ⟨_, _, q, r, ⟨n1, n2, n3⟩, _⟩ := h
  unfold nmB at n1
  refine ⟨by omega, by omega, ?_⟩
  rcases n3 with ⟨_, x, _⟩ | ⟨_, x, y, _⟩
  · exact Or.inl x
  · unfold nmB at x; exact Or.inr (by omega)
theorem qW.has {Q : Nat → Int32} {w : Int32} {m : Int} (h : qW Q w m) {x : Int32} (h0 : 0 ≤ x.toInt) (h1 : x.toInt ≤ 15) : hsQ Q x.toInt ↔ (bitI w x).toInt = 1 := ⟨fun q => (h x h0 h1).1.mp q.2.2, fun q => ⟨h0, h1, (h x h0 h1).1.mpr q⟩⟩
theorem qW.ahead {Q : Nat → Int32} {w : Int32} {m : Int} (h : qW Q w m) {x : Int32} (h0 : 0 ≤ x.toInt) (h1 : x.toInt ≤ 15) : stA Q x.toInt m ↔ (bitI w x).toInt = 1 := ⟨fun q => (h.has h0 h1).mp q.1, fun q => ⟨(h.has h0 h1).mpr q, ((h x h0 h1).2 ((h.has h0 h1).mpr q).2.2).2⟩⟩
theorem mayF.iff {B : Int → Int} {p e m g : Int} {Q R : Nat → Int32} {w : Int32} (hq : qW Q w m) (hi : itemAt B p (R 0) (R 1) (R 2) (R 3) (R 4) (R 5) e) : mayF Q R m g ↔ okIt w g (R 0) (R 1) (R 2) (R 3) (R 4) (R 5) := by
  obtain ⟨f0, f1, f2⟩ := hi.nm
  have hs1 : (R 0).toInt = 115 → (R 2).toInt = -4 := fun k => by
    obtain ⟨a1, a2, q, r, ⟨_, _, n3⟩, _⟩ := hi
    rcases n3 with ⟨_, x, _⟩ | ⟨x, _⟩
    · exact x
    · rw [← a1, k] at x; exact absurd x (by decide)
  constructor
  · intro ⟨h1, h2, h3⟩
    refine ⟨h1, fun k => fun b => h2 k ((hq.has f0 f1).mpr b), fun k => (hq.ahead f0 f1).mp (h3 k).1.1, ?_, fun k => (h3 (by omega)).2 k⟩
    by_cases k : (R 0).toInt = 115
    · exact Or.inl (by rw [hs1 k]; omega)
    · rcases (h3 k).1.2 with x | ⟨x, y⟩
      · exact Or.inl (by rw [x]; omega)
      · exact Or.inr ⟨x, (hq.ahead y.1.1 y.1.2.1).mp y⟩
  · intro ⟨h1, h2, h3, h4, h5⟩
    refine ⟨h1, fun k q => h2 k ((hq.has f0 f1).mp q), fun k => ⟨⟨(hq.ahead f0 f1).mpr (h3 k), ?_⟩, h5⟩⟩
    rcases f2 with x | ⟨x, y⟩
    · exact Or.inl x
    · rcases h4 with z | ⟨z, u⟩
      · omega
      · exact Or.inr ⟨z, (hq.ahead x y).mpr u⟩
theorem rdS.step {B : Int → Int} {n j j' p e m st gt m' st' gt' : Int} {L Q L' Q' R : Nat → Int32} {mi : Int32} (h : rdS B n j p L Q m st gt) (hp : p < n) (hi : itemAt B p (R 0) (R 1) (R 2) (R 3) (R 4) (R 5) e) (hm : mayF Q R m gt) (e0 : mi.toInt = m) (e1 : m' = m + 1) (e2 : st' = nextC st (R 0)) (e3 : gt' = nextG gt (R 0)) (e4 : cpf L L' (6 * m) R 6) (e5 : Q' = nxQ Q (R 0) (R 1) mi) (hj : j' = j + 1) : rdS B n j' e L' Q' m' st' gt' := by
  subst hj
  obtain ⟨j0, w, r1, rfl, g0, g4, s0, s1, hq, hd, hl⟩ := h
  obtain ⟨f0, f1, f2⟩ := hi.nm
  have hok := (mayF.iff hq hi).mp hm
  have k0 : L' (6 * m).toNat = R 0 := by have := e4.1 0 (by omega) (by omega); rw [show 6 * m + 0 = 6 * m by omega] at this; exact this
  have k1 : L' (6 * m + 1).toNat = R 1 := e4.1 1 (by omega) (by omega)
  have ko : ∀ i : Int, 0 ≤ i → i < m → L' (6 * i).toNat = L (6 * i).toNat ∧ L' (6 * i + 1).toNat = L (6 * i + 1).toNat := fun i h0 h1 => ⟨e4.2 _ (by omega) (by omega), e4.2 _ (by omega) (by omega)⟩
  have hr : rch B n (m + 1).toNat e (nextW w (R 0) (R 1)) gt' st' := by
    rw [show (m + 1).toNat = m.toNat + 1 by omega]
    exact ⟨p, w, gt, st, R 0, R 1, R 2, R 3, R 4, R 5, r1, hp, ⟨hi, hok⟩, rfl, e3, e2⟩
  refine ⟨by omega, _, hr, by omega, ?_, ?_, ?_, ?_, ?_, ?_, ?_⟩
  · rw [e3]; unfold nextG; split <;> omega
  · rw [e3]; unfold nextG; split
    · rename_i k; have := hok.2.2.2.2 k; omega
    · omega
  · rw [e2]; unfold nextC; split <;> omega
  · rw [e2]; unfold nextC; split <;> omega
  · intro x x0 x1
    rw [e5]
    unfold nxQ nextW
    by_cases k : (R 0).toInt = 115
    · rw [if_pos k, if_pos k]
      by_cases ex : x = R 1
      · subst ex
        rw [pk_us, e0]
        exact ⟨⟨fun _ => (bit_or f0 f1 x0 x1).mpr (Or.inr rfl), fun _ => by omega⟩, fun _ => by omega⟩
      · have hne : x.toInt.toNat ≠ (R 1).toInt.toNat := fun q => ex (Int32.toInt_inj.mp (by omega))
        rw [pk_un hne]
        refine ⟨(hq x x0 x1).1.trans ⟨fun b => (bit_or f0 f1 x0 x1).mpr (Or.inl b), fun b => ?_⟩, fun b => by have := (hq x x0 x1).2 b; omega⟩
        rcases (bit_or f0 f1 x0 x1).mp b with y | y
        · exact y
        · exact absurd y.symm ex
    · rw [if_neg k, if_neg k]
      exact ⟨(hq x x0 x1).1, fun b => by have := (hq x x0 x1).2 b; omega⟩
  · have hQx : ∀ x : Int, 0 ≤ x → (x ≠ (R 1).toInt ∨ (R 0).toInt ≠ 115) → Q' x.toNat = Q x.toNat := fun x hx q => by
      rw [e5]; unfold nxQ
      split
      · rename_i k
        rcases q with q | q
        · rw [pk_un (by omega)]
        · exact absurd k q
      · rfl
    have hQn : (R 0).toInt = 115 → (Q' (R 1).toInt.toNat).toInt = m := fun k => by rw [e5]; unfold nxQ; rw [if_pos k, pk_us]; exact e0
    refine ⟨fun x hx => ?_, fun i h0 h1 hk => ?_⟩
    · by_cases q : x = (R 1).toInt ∧ (R 0).toInt = 115
      · obtain ⟨q1, q2⟩ := q
        subst q1
        rw [hQn q2, k0, k1]
        exact ⟨by omega, by omega, q2, rfl⟩
      · have q' : x ≠ (R 1).toInt ∨ (R 0).toInt ≠ 115 := by omega
        have hx' : hsQ Q x := ⟨hx.1, hx.2.1, by have := hx.2.2; rw [hQx x hx.1 q'] at this; exact this⟩
        obtain ⟨y1, y2, y3, y4⟩ := hd.1 x hx'
        rw [hQx x hx.1 q', (ko _ y1 y2).1, (ko _ y1 y2).2]
        exact ⟨y1, by omega, y3, y4⟩
    · by_cases q : i = m
      · subst q
        rw [k0] at hk
        rw [k1]
        exact ⟨f0, f1, hQn hk⟩
      · rw [(ko i h0 (by omega)).1] at hk
        obtain ⟨y1, y2, y3⟩ := hd.2 i h0 (by omega) hk
        rw [(ko i h0 (by omega)).2]
        refine ⟨y1, y2, ?_⟩
        rw [hQx _ y1 ?_]
        · exact y3
        · by_cases z : (L (6 * i + 1).toNat).toInt = (R 1).toInt
          · refine Or.inr fun k => hm.2.1 k ⟨f0, f1, ?_⟩
            rw [← z, y3]; omega
          · exact Or.inl z
  · intro i hi'
    by_cases q : (i : Int) = m
    · refine ⟨p, w, gt, st, R 2, R 3, R 4, R 5, e, by rw [show i = m.toNat by omega]; exact r1, ?_⟩
      show itemAt B p (L' (6 * (i : Int)).toNat) (L' (6 * (i : Int) + 1).toNat) _ _ _ _ _
      rw [q, k0, k1]
      exact hi
    · obtain ⟨p', w', g', c', s', a', b', d', e', z1, z2⟩ := hl i (by omega)
      refine ⟨p', w', g', c', s', a', b', d', e', z1, ?_⟩
      show itemAt B p' (L' (6 * (i : Int)).toNat) (L' (6 * (i : Int) + 1).toNat) _ _ _ _ _
      rw [(ko i (by omega) (by omega)).1, (ko i (by omega) (by omega)).2]
      exact z2
/-- what the class's reader answers -/
def rdR (B : Int → Int) (n r : Int) (L Q : Nat → Int32) (m st gt : Int) : Prop := ∃ j p : Int, rdS B n j p L Q m st gt ∧ j ≤ 40 ∧ ((n ≤ p ∧ r = -4) ∨ (p < n ∧ r = p ∧ (j = 40 ∨ ∀ (w : Int32) (k f s a b d : Int32) (e : Int), rch B n j.toNat p w gt st → ¬ vIt B p w gt k f s a b d e)))
theorem rdR.none {B : Int → Int} {n j p m st gt : Int} {L Q : Nat → Int32} (h : rdS B n j p L Q m st gt) (hj : j ≤ 40) (hp : n ≤ p) : rdR B n (-4) L Q m st gt := ⟨j, p, h, hj, Or.inl ⟨hp, rfl⟩⟩
theorem rdR.full {B : Int → Int} {n j p m st gt : Int} {L Q : Nat → Int32} (h : rdS B n j p L Q m st gt) (hj : j = 40) (hp : p < n) : rdR B n p L Q m st gt := ⟨j, p, h, by omega, Or.inr ⟨hp, rfl, Or.inl hj⟩⟩
theorem rdR.noit {B : Int → Int} {n j p m st gt : Int} {L Q : Nat → Int32} (h : rdS B n j p L Q m st gt) (hj : j ≤ 40) (hp : p < n) (hn : noItem B p) : rdR B n p L Q m st gt := ⟨j, p, h, hj, Or.inr ⟨hp, rfl, Or.inr fun w k f s a b d e _ q => hn _ _ _ _ _ _ _ q.1⟩⟩
theorem rdR.nof {B : Int → Int} {n j p m st gt e : Int} {L Q R : Nat → Int32} (h : rdS B n j p L Q m st gt) (hj : j ≤ 40) (hp : p < n) (hi : itemAt B p (R 0) (R 1) (R 2) (R 3) (R 4) (R 5) e) (hm : ¬ mayF Q R m gt) : rdR B n p L Q m st gt := by
  refine ⟨j, p, h, hj, Or.inr ⟨hp, rfl, Or.inr fun w k f s a b d e' hr q => ?_⟩⟩
  obtain ⟨_, w', r1, rfl, _, _, _, _, hq, _, _⟩ := h
  obtain ⟨_, x2, _⟩ := r1.uq hr
  subst x2
  obtain ⟨y1, y2, y3, y4, y5, y6, _⟩ := hi.uq q.1
  subst y1; subst y2; subst y3; subst y4; subst y5; subst y6
  exact hm ((mayF.iff hq hi).mpr q.2)
theorem rdR.stop {B : Int → Int} {n r m st gt : Int} {L Q : Nat → Int32} (h : rdR B n r L Q m st gt) : ∃ (j : Nat) (p : Int) (w : Int32), stp B n j p w gt st ∧ m = j ∧ r = if n ≤ p then -4 else p := by
  obtain ⟨j, p, ⟨j0, w, r1, e1, _⟩, j4, hc⟩ := h
  refine ⟨j.toNat, p, w, ⟨by omega, r1, ?_⟩, by omega, ?_⟩
  · rcases hc with ⟨q, _⟩ | ⟨q, _, q3⟩
    · exact Or.inl q
    · refine Or.inr ⟨q, ?_⟩
      rcases q3 with q3 | q3
      · exact Or.inl (by omega)
      · exact Or.inr fun k f s a b d e => q3 w k f s a b d e r1
  · rcases hc with ⟨q, q2⟩ | ⟨q, q2, _⟩
    · rw [if_pos q]; exact q2
    · rw [if_neg (by omega)]; exact q2
theorem rdR.res {B : Int → Int} {n m st gt : Int} {r : Int32} {L Q : Nat → Int32} (h : rdR B n r.toInt L Q m st gt) : resF B n r := by
  obtain ⟨j, p, w, h1, _, h2⟩ := h.stop
  exact ⟨j, p, w, gt, st, h1, h2⟩
theorem numAt.gt {B : Int → Int} {p e : Int} {v : Int32} (h : numAt B p e v) : p < e ∧ e ≤ p + 8 := by
  obtain ⟨d, h1, h2, h3, _⟩ := h; omega
theorem nums.ge {B : Int → Int} {q m e : Int} {a b c : Int32} (h : nums B q m a b c e) : q ≤ e ∧ e ≤ q + 24 := by
  rcases h with ⟨_, h1, _⟩ | ⟨_, h1, _⟩ | ⟨_, ⟨q1, h1, h2⟩, _⟩ | ⟨_, q1, q2, h1, h2, h3⟩
  · omega
  · have := h1.gt; omega
  · have := h1.gt; have := h2.gt; omega
  · have := h1.gt; have := h2.gt; have := h3.gt; omega
theorem itemAt.gt {B : Int → Int} {p e : Int} {k f s a b c : Int32} (h : itemAt B p k f s a b c e) : p + 2 < e ∧ e ≤ p + 28 := by
  obtain ⟨_, _, q, r, ⟨_, _, n3⟩, h4, _, h6⟩ := h
  have := h4.ge
  rcases n3 with ⟨_, _, x⟩ | ⟨_, _, _, x⟩ <;> omega
/-! the reference's reader -/
theorem noNum.ofX {B : Int → Int} {p d : Int} (h : figs B (p + 1) d) (hx : d = 8 ∨ ¬ dgB (B (p + 1 + d))) (h8 : 0 ≤ d ∧ d ≤ 8) (hd : d < 1 ∨ 7 < d) : noNum B p := by
  rcases hd with q | q
  · have : d = 0 := by omega
    subst this
    exact noNum.of0 (hx.elim (fun x => absurd x (by omega)) (fun x => by rw [show p + 1 + 0 = p + 1 by omega] at x; exact x))
  · exact noNum.of8 h (by omega)
def oneQ (v k b : Int) : Prop := (v = 1 ∧ ((k = 115 ∧ b ≠ 1) ∨ (k ≠ 115 ∧ b = 1))) ∨ (v = 0 ∧ ¬ ((k = 115 ∧ b ≠ 1) ∨ (k ≠ 115 ∧ b = 1)))
def twoQ (v s f b : Int) : Prop := (v = 1 ∧ (s < 0 ∨ (s ≠ f ∧ b = 1))) ∨ (v = 0 ∧ ¬ (s < 0 ∨ (s ≠ f ∧ b = 1)))
theorem bit_01 (n : Int32) {f : Int32} (h0 : 0 ≤ f.toInt) (h1 : f.toInt ≤ 15) : (bitI n f).toInt = 0 ∨ (bitI n f).toInt = 1 := by
  obtain ⟨b, hb, rfl⟩ := nI_of (x := f) (fun h => by have := q_lt h; rw [show (0 : Int32).toInt = 0 by decide] at this; omega)
  rw [nI_toInt hb] at h1
  rw [bit_eq _ b (by omega)]
  split <;> simp
def noVit (B : Int → Int) (p : Int) (w : Int32) (g : Int) : Prop := ∀ (k f s a b c : Int32) (e : Int), ¬ vIt B p w g k f s a b c e
theorem noItem.v {B : Int → Int} {p g : Int} {w : Int32} (h : noItem B p) : noVit B p w g := fun _ _ _ _ _ _ _ q => h _ _ _ _ _ _ _ q.1
theorem vIt.no {B : Int → Int} {p g e : Int} {w k f s a b c : Int32} (h : itemAt B p k f s a b c e) (hn : ¬ okIt w g k f s a b c) : noVit B p w g := fun _ _ _ _ _ _ _ q => by
  obtain ⟨y1, y2, y3, y4, y5, y6, _⟩ := h.uq q.1
  subst y1; subst y2; subst y3; subst y4; subst y5; subst y6
  exact hn q.2
theorem noItem.lastR {B : Int → Int} {p q r m : Int} {f s : Int32} {R : Nat → Int32} (hn : names B p f s q) (h : numsR B q m 0 R r) (hm : shp (B p) % 10 = m) (h5 : B r ≠ 59) : noItem B p := by
  subst hm
  exact noItem.last hn h h5
theorem itemAt.ofR {B : Int → Int} {p q r m e' : Int} {k f s : Int32} {R : Nat → Int32} (hk : k.toInt = B p) (h1 : 10 ≤ shp (B p)) (hn : names B p f s q) (h : numsR B q m 0 R r) (hm : shp (B p) % 10 = m) (h5 : B r = 59) (he : e' = r + 1) : itemAt B p k f s (R 0) (R 1) (R 2) e' := by
  subst hm
  exact ⟨hk, h1, q, r, hn, h, h5, he⟩
theorem okIt.of {w : Int32} {g v v2 : Int} {k f s a b c : Int32} (hw : well k.toInt a b c) (h1 : oneQ v k.toInt (bitI w f).toInt) (h2 : twoQ v2 s.toInt f.toInt (bitI w s).toInt) (e1 : v = 1) (e2 : v2 = 1) (hg : k.toInt = 103 → g < 4) : okIt w g k f s a b c := by
  unfold oneQ at h1; unfold twoQ at h2
  refine ⟨hw, fun q => ?_, fun q => ?_, ?_, hg⟩
  · omega
  · omega
  · rcases h2 with ⟨_, h⟩ | ⟨h, _⟩
    · exact h
    · omega
theorem okIt.no1 {w : Int32} {g v : Int} {k f s a b c : Int32} (h1 : oneQ v k.toInt (bitI w f).toInt) (e1 : v = 0) : ¬ okIt w g k f s a b c := fun ⟨_, q1, q2, _, _⟩ => by
  unfold oneQ at h1
  by_cases k' : k.toInt = 115
  · have := q1 k'; omega
  · have := q2 k'; omega
theorem okIt.no2 {w : Int32} {g v : Int} {k f s a b c : Int32} (h1 : twoQ v s.toInt f.toInt (bitI w s).toInt) (e1 : v = 0) : ¬ okIt w g k f s a b c := fun ⟨_, _, _, q, _⟩ => by
  unfold twoQ at h1
  rcases h1 with ⟨h, _⟩ | ⟨_, h⟩
  · omega
  · exact h q
theorem okIt.nog {w : Int32} {g : Int} {k f s a b c : Int32} (h1 : k.toInt = 103) (h2 : 4 ≤ g) : ¬ okIt w g k f s a b c := fun q => by have := q.2.2.2.2 h1; omega
theorem okIt.now {w : Int32} {g : Int} {k f s a b c : Int32} (h1 : ¬ well k.toInt a b c) : ¬ okIt w g k f s a b c := fun q => h1 q.1
theorem nmOk.of {v : Int} {k f n : Int32} (h : oneQ v k.toInt (bitI n f).toInt) (e : v = 1) : nmOk k f n := fun q => by unfold oneQ at h; omega
/-- the reference has read j ITEMS, stands at p; its rows K, F from b on -/
def rdM (B : Int → Int) (n j p : Int) (w : Int32) (g : Int) (K F : Nat → Int32) : Prop := 0 ≤ j ∧ 0 ≤ g ∧ g ≤ 4 ∧ itL B n (fun i => K (40 + i).toNat) (fun i => F (40 + i).toNat) j ∧ ∃ c : Int, rch B n j.toNat p w g c ∧ 0 ≤ c ∧ (0 < c ↔ ∃ i : Int, 0 ≤ i ∧ i < j ∧ (K (40 + i).toNat).toInt = 115)
theorem rdM.zero {B : Int → Int} {n : Int} {K F : Nat → Int32} : rdM B n 0 0 0 0 K F := ⟨by omega, by omega, by omega, fun i hi => by omega, 0, ⟨rfl, rfl, rfl, rfl⟩, by omega, ⟨fun q => by omega, fun ⟨i, h0, h1, _⟩ => by omega⟩⟩
theorem rdM.step {B : Int → Int} {n j j' p e g g' : Int} {w w' k f s : Int32} {K F K' F' R : Nat → Int32} (h : rdM B n j p w g K F) (hp : p < n) (hi : itemAt B p k f s (R 0) (R 1) (R 2) e) (ho : okIt w g k f s (R 0) (R 1) (R 2)) (eK : K' = upd K (40 + j).toNat k) (eF : F' = upd F (40 + j).toNat f) (ew : w' = nextW w k f) (eg : g' = nextG g k) (ej : j' = j + 1) : rdM B n j' e w' g' K' F' := by
  subst ej
  obtain ⟨j0, g0, g4, hl, c, hr, c0, hc⟩ := h
  have kn : K' (40 + j).toNat = k := by rw [eK, pk_us]
  have fn : F' (40 + j).toNat = f := by rw [eF, pk_us]
  have ko : ∀ i : Int, 0 ≤ i → i < j → K' (40 + i).toNat = K (40 + i).toNat := fun i h0 h1 => by rw [eK, pk_un (by omega)]
  have fo : ∀ i : Int, 0 ≤ i → i < j → F' (40 + i).toNat = F (40 + i).toNat := fun i h0 h1 => by rw [eF, pk_un (by omega)]
  refine ⟨by omega, ?_, ?_, fun i hi' => ?_, nextC c k, ?_, ?_, ?_⟩
  · rw [eg]; unfold nextG; split <;> omega
  · rw [eg]; unfold nextG; split
    · rename_i q; have := ho.2.2.2.2 q; omega
    · omega
  · by_cases q : (i : Int) = j
    · refine ⟨p, w, g, c, s, R 0, R 1, R 2, e, by rw [show i = j.toNat by omega]; exact hr, ?_⟩
      show itemAt B p (K' (40 + (i : Int)).toNat) (F' (40 + (i : Int)).toNat) _ _ _ _ _
      rw [q, kn, fn]; exact hi
    · obtain ⟨p', w', g', c', s', a', b', d', e', z1, z2⟩ := hl i (by omega)
      refine ⟨p', w', g', c', s', a', b', d', e', z1, ?_⟩
      show itemAt B p' (K' (40 + (i : Int)).toNat) (F' (40 + (i : Int)).toNat) _ _ _ _ _
      rw [ko i (by omega) (by omega), fo i (by omega) (by omega)]; exact z2
  · rw [show (j + 1).toNat = j.toNat + 1 by omega]
    exact ⟨p, w, g, c, k, f, s, R 0, R 1, R 2, hr, hp, ⟨hi, ho⟩, ew, eg, rfl⟩
  · unfold nextC; split <;> omega
  · unfold nextC
    by_cases q : k.toInt = 115
    · rw [if_pos q]
      exact ⟨fun _ => ⟨j, j0, by omega, by rw [kn]; exact q⟩, fun _ => by omega⟩
    · rw [if_neg q, hc]
      refine ⟨fun ⟨i, h0, h1, h2⟩ => ⟨i, h0, by omega, by rw [ko i h0 h1]; exact h2⟩, fun ⟨i, h0, h1, h2⟩ => ?_⟩
      by_cases x : i = j
      · subst x; rw [kn] at h2; exact absurd h2 q
      · exact ⟨i, h0, by omega, by rw [ko i h0 (by omega)] at h2; exact h2⟩
/-- what the reference's reader answers; j ITEMS, c STORES -/
def rdN (B : Int → Int) (n r j : Int) (K F : Nat → Int32) : Prop := itL B n (fun i => K (40 + i).toNat) (fun i => F (40 + i).toNat) j ∧ ∃ (p : Int) (w : Int32) (g c : Int), 0 ≤ j ∧ stp B n j.toNat p w g c ∧ r = (if n ≤ p then -4 else p) ∧ (0 < c ↔ ∃ i : Int, 0 ≤ i ∧ i < j ∧ (K (40 + i).toNat).toInt = 115)
theorem rdN.of {B : Int → Int} {n r j p g : Int} {w : Int32} {K F : Nat → Int32} (h : rdM B n j p w g K F) (hj : j ≤ 40) (hr : (n ≤ p ∧ r = -4) ∨ (p < n ∧ r = p ∧ (j = 40 ∨ noVit B p w g))) : rdN B n r j K F := by
  obtain ⟨j0, g0, g4, hl, c, hc, c0, hs⟩ := h
  refine ⟨hl, p, w, g, c, j0, ⟨by omega, hc, ?_⟩, ?_, hs⟩
  · rcases hr with ⟨q, _⟩ | ⟨q, _, q3⟩
    · exact Or.inl q
    · refine Or.inr ⟨q, ?_⟩
      rcases q3 with q3 | q3
      · exact Or.inl (by omega)
      · exact Or.inr q3
  · rcases hr with ⟨q, q2⟩ | ⟨q, q2, _⟩
    · rw [if_pos q]; exact q2
    · rw [if_neg (by omega)]; exact q2
theorem rdN.res {B : Int → Int} {n j : Int} {r : Int32} {K F : Nat → Int32} (h : rdN B n r.toInt j K F) : resF B n r := by
  obtain ⟨_, p, w, g, c, _, h1, h2, _⟩ := h
  exact ⟨_, p, w, g, c, h1, h2⟩
theorem rdN.no {B : Int → Int} {n r j : Int} {x : Int32} {K F : Nat → Int32} (h : rdN B n r j K F) (hx : x.toInt = -2) (hr : r ≠ -4 ∨ ¬ ∃ i : Int, 0 ≤ i ∧ i < j ∧ (K (40 + i).toNat).toInt = 115) : resB B n x := by
  obtain ⟨_, p, w, g, c, _, h1, h2, h3⟩ := h
  refine ⟨_, p, w, g, c, h1, ?_⟩
  rw [if_neg, hx]
  intro ⟨q1, q2⟩
  rcases hr with q | q
  · rw [if_pos q1] at h2; exact q h2
  · exact q (h3.mp q2)
theorem rdN.yes {B : Int → Int} {n j : Int} {x : Int32} {K F : Nat → Int32} (h : rdN B n (-4) j K F) (hn : 0 ≤ n) (hp : ∀ (p : Int) (w : Int32) (g c : Int), rch B n j.toNat p w g c → 0 ≤ p) (hx : x.toInt = j) (hs : ∃ i : Int, 0 ≤ i ∧ i < j ∧ (K (40 + i).toNat).toInt = 115) : resB B n x := by
  obtain ⟨_, p, w, g, c, j0, h1, h2, h3⟩ := h
  refine ⟨_, p, w, g, c, h1, ?_⟩
  have h4 : n ≤ p := by
    by_cases q : n ≤ p
    · exact q
    · rw [if_neg q] at h2; have := hp p w g c h1.2.1; omega
  rw [if_pos ⟨h4, h3.mpr hs⟩, hx]
  omega
theorem rch.pos {B : Int → Int} {n : Int} : ∀ {j : Nat} {p : Int} {w : Int32} {g c : Int}, rch B n j p w g c → 0 ≤ p
  | 0, _, _, _, _, ⟨h, _⟩ => by omega
  | j + 1, _, _, _, _, ⟨p0, w0, g0, c0, k, f, s, a, b, d, h1, h2, h3, _⟩ => by
    have := rch.pos h1
    have := h3.1.gt
    omega
def stQ (v : Int) (K : Nat → Int32) (k : Int) : Prop := (v = 0 ∧ ¬ ∃ i : Int, 0 ≤ i ∧ i < k ∧ (K (40 + i).toNat).toInt = 115) ∨ (v = 1 ∧ ∃ i : Int, 0 ≤ i ∧ i < k ∧ (K (40 + i).toNat).toInt = 115)
theorem stQ.zero {K : Nat → Int32} : stQ 0 K 0 := Or.inl ⟨rfl, fun ⟨i, h0, h1, _⟩ => by omega⟩
theorem stQ.keep {v v' k k' : Int} {K : Nat → Int32} (h : stQ v K k) (hv : v ≠ 0) (e : k' = k + 1) (hv' : v' = 1) : stQ v' K k' := by
  rcases h with ⟨q, _⟩ | ⟨q, i, h0, h1, h2⟩
  · exact absurd q hv
  · exact Or.inr ⟨hv', i, h0, by omega, h2⟩
theorem stQ.hit {v v' k k' : Int} {K : Nat → Int32} (_ : stQ v K k) (h0 : 0 ≤ k) (hk : (K (40 + k).toNat).toInt = 115) (e : k' = k + 1) (hv : v' = 1) : stQ v' K k' := Or.inr ⟨hv, k, h0, by omega, hk⟩
theorem stQ.miss {v v' k k' : Int} {K : Nat → Int32} (h : stQ v K k) (h0 : v = 0) (hk : (K (40 + k).toNat).toInt ≠ 115) (e : k' = k + 1) (hv : v' = 0) : stQ v' K k' := by
  rcases h with ⟨_, q⟩ | ⟨q, _⟩
  · refine Or.inl ⟨hv, fun ⟨i, i0, i1, i2⟩ => ?_⟩
    by_cases x : i = k
    · subst x; exact hk i2
    · exact q ⟨i, i0, by omega, i2⟩
  · omega
theorem stQ.no {v k j : Int} {K : Nat → Int32} (h : stQ v K k) (hv : v = 0) (hj : j ≤ k) : ¬ ∃ i : Int, 0 ≤ i ∧ i < j ∧ (K (40 + i).toNat).toInt = 115 := fun ⟨i, i0, i1, i2⟩ => by
  rcases h with ⟨_, q⟩ | ⟨q, _⟩
  · exact q ⟨i, i0, by omega, i2⟩
  · omega
theorem stQ.yes {v k j : Int} {K : Nat → Int32} (h : stQ v K k) (hv : v ≠ 0) (hj : k ≤ j) : ∃ i : Int, 0 ≤ i ∧ i < j ∧ (K (40 + i).toNat).toInt = 115 := by
  rcases h with ⟨q, _⟩ | ⟨_, i, i0, i1, i2⟩
  · omega
  · exact ⟨i, i0, by omega, i2⟩
/-! bytes that are written: of v, the k-th from its end -/
def byV (v : Int64) (k : Nat) : Int32 := Int32.ofNat (v.toBitVec.toNat / 2 ^ (8 * k) % 256)
def wriB (v : Int64) : Nat → (Nat → Int32) → Nat → (Nat → Int32)
  | 0, T, _ => T
  | k + 1, T, c => wriB v k (upd T c (byV v k)) (c + 1)
def nwT (T : Nat → Int32) (g n : Int32) (v : Int64) : Nat → Int32 := if n.toInt < 1 ∨ 8 < n.toInt then T else if 400 < g.toInt + n.toInt then T else wriB v n.toInt.toNat T g.toInt.toNat
theorem wriB.step {v : Int64} {T T' W : Nat → Int32} {yk yk' : Int} {c c' : Int} {i x : Int32} (h : wriB v (yk + 1).toNat T c.toNat = W) (h0 : 0 ≤ yk) (e : T' = upd T i.toNatClampNeg x) (hx : x = byV v yk.toNat) (hi : i.toInt = c) (hk : yk' + 1 = yk) (hc : c' = c + 1 ∧ 0 ≤ c) : wriB v (yk' + 1).toNat T' c'.toNat = W := by
  rw [← h, show (yk + 1).toNat = yk.toNat + 1 by omega, show (yk' + 1).toNat = yk.toNat by omega, e, hx, q_clE hi, hc.1, show (c + 1).toNat = c.toNat + 1 by omega]
  rfl
theorem wriB.done {v : Int64} {T W : Nat → Int32} {yk : Int} {c : Nat} (h : wriB v (yk + 1).toNat T c = W) (h0 : yk < 0) : T = W := by
  rw [show (yk + 1).toNat = 0 by omega] at h
  exact h
theorem byV_bd (v : Int64) (k : Nat) : 0 ≤ (byV v k).toInt ∧ (byV v k).toInt ≤ 255 := by
  have h : v.toBitVec.toNat / 2 ^ (8 * k) % 256 < 256 := Nat.mod_lt _ (by decide)
  unfold byV
  rw [show Int32.ofNat (v.toBitVec.toNat / 2 ^ (8 * k) % 256) = nI (v.toBitVec.toNat / 2 ^ (8 * k) % 256) from rfl, nI_toInt (by omega)]
  omega
theorem wriB_bd {v : Int64} : ∀ {k : Nat} {T : Nat → Int32} {c : Nat}, gBd 400 0 255 T → gBd 400 0 255 (wriB v k T c)
  | 0, _, _, h => h
  | k + 1, T, c, h => wriB_bd (k := k) (T := upd T c (byV v k)) (c := c + 1) (gBd_upd h (byV_bd v k))
theorem nwT_bd {T : Nat → Int32} {g n : Int32} {v : Int64} (h : gBd 400 0 255 T) : gBd 400 0 255 (nwT T g n v) := by
  unfold nwT
  split
  · exact h
  · split
    · exact h
    · exact wriB_bd h
theorem byV_toNat (v : Int64) (k : Nat) : (byV v k).toBitVec.toNat = v.toBitVec.toNat / 2 ^ (8 * k) % 256 := by
  show (BitVec.ofNat 32 (v.toBitVec.toNat / 2 ^ (8 * k) % 256)).toNat = _
  rw [BitVec.toNat_ofNat]
  have : v.toBitVec.toNat / 2 ^ (8 * k) % 256 < 256 := Nat.mod_lt _ (by decide)
  exact Nat.mod_eq_of_lt (by omega)
theorem byV_sh (x : BitVec 64) (k : Nat) (hk : k < 8) : (x.sshiftRight (8 * k)).toNat &&& 255 = x.toNat / 2 ^ (8 * k) % 256 := by
  rw [show (255 : Nat) = 2 ^ 8 - 1 by decide, Nat.and_two_pow_sub_one_eq_mod, show (256 : Nat) = 2 ^ 8 by decide]
  apply Nat.eq_of_testBit_eq
  intro i
  rw [Nat.testBit_mod_two_pow, Nat.testBit_mod_two_pow, Nat.testBit_div_two_pow]
  by_cases hi : i < 8
  · have h1 : (x.sshiftRight (8 * k)).getLsbD i = x.getLsbD (8 * k + i) := by
      rw [BitVec.getLsbD_sshiftRight, if_pos (by omega), show decide (64 ≤ i) = false by simp; omega]
      rfl
    have h2 : (x.sshiftRight (8 * k)).toNat.testBit i = x.toNat.testBit (i + 8 * k) := by rw [Nat.add_comm i]; exact h1
    rw [h2]
  · rw [show decide (i < 8) = false by simp; omega]
    rfl
theorem byV_ref {v : Int64} {y : Int32} {k : Nat} (hk : k < 8) (hy : y.toInt = 8 * (k : Int)) : ((v >>> (y.toInt64 &&& 63)) &&& 255).toInt32 = byV v k := by
  have e0 : y = nI (8 * k) := Int32.toInt_inj.mp (by rw [hy, nI_toInt (by omega)]; omega)
  subst e0
  have e1 : ∀ k : Nat, k < 8 → (((nI (8 * k)).toInt64 &&& 63).toBitVec.smod 64).toNat = 8 * k := by decide +kernel
  have e2 : (v >>> ((nI (8 * k)).toInt64 &&& 63)).toBitVec = v.toBitVec.sshiftRight (8 * k) := by
    show BitVec.sshiftRight' v.toBitVec (((nI (8 * k)).toInt64 &&& 63).toBitVec.smod 64) = _
    unfold BitVec.sshiftRight'
    rw [e1 k hk]
  apply Int32.toBitVec_inj.mp
  apply BitVec.eq_of_toNat_eq
  rw [byV_toNat]
  show (BitVec.signExtend 32 ((v >>> ((nI (8 * k)).toInt64 &&& 63)).toBitVec &&& (255 : Int64).toBitVec)).toNat = _
  rw [e2, BitVec.signExtend_eq_setWidth_of_le _ (by decide), BitVec.toNat_setWidth, BitVec.toNat_and, show (255 : Int64).toBitVec.toNat = 255 by decide, byV_sh _ k hk]
  have : v.toBitVec.toNat / 2 ^ (8 * k) % 256 < 256 := Nat.mod_lt _ (by decide)
  exact Nat.mod_eq_of_lt (by omega)
theorem byV_cls {v : Int64} {y : Int32} {k : Nat} (hk : k < 8) (hy : y.toInt = 8 * (k : Int)) : (v.toUInt64 >>> (y.toInt64.toUInt64 &&& Int64.toUInt64 63)).toInt64.toInt32 &&& 255 = byV v k := by
  have e0 : y = nI (8 * k) := Int32.toInt_inj.mp (by rw [hy, nI_toInt (by omega)]; omega)
  subst e0
  have e1 : ∀ k : Nat, k < 8 → ((nI (8 * k)).toInt64.toUInt64 &&& Int64.toUInt64 63).toBitVec.toNat % 64 = 8 * k := by decide +kernel
  apply Int32.toBitVec_inj.mp
  apply BitVec.eq_of_toNat_eq
  rw [byV_toNat]
  show (BitVec.signExtend 32 (v.toUInt64 >>> ((nI (8 * k)).toInt64.toUInt64 &&& Int64.toUInt64 63)).toBitVec &&& (255 : Int32).toBitVec).toNat = _
  have e2 : (v.toUInt64 >>> ((nI (8 * k)).toInt64.toUInt64 &&& Int64.toUInt64 63)).toBitVec.toNat = v.toBitVec.toNat / 2 ^ (8 * k) := by
    have := UInt64.toNat_shiftRight v.toUInt64 ((nI (8 * k)).toInt64.toUInt64 &&& Int64.toUInt64 63)
    have e3 := e1 k hk
    show (v.toUInt64 >>> ((nI (8 * k)).toInt64.toUInt64 &&& Int64.toUInt64 63)).toNat = _
    rw [this, show ((nI (8 * k)).toInt64.toUInt64 &&& Int64.toUInt64 63).toNat % 64 = 8 * k from e3, Nat.shiftRight_eq_div_pow]
    rfl
  rw [BitVec.signExtend_eq_setWidth_of_le _ (by decide), BitVec.toNat_and, BitVec.toNat_setWidth, e2, show (255 : Int32).toBitVec.toNat = 2 ^ 8 - 1 by decide, Nat.and_two_pow_sub_one_eq_mod]
  omega
/-- kinds and NAMES stay -/
def smK (L L' : Nat → Int32) : Prop := ∀ i w : Int, 0 ≤ i → i ≤ 39 → 0 ≤ w → w ≤ 2 → L' (6 * i + w).toNat = L (6 * i + w).toNat
theorem smK.rf {L : Nat → Int32} : smK L L := fun _ _ _ _ _ _ => rfl
theorem smK.upd {L L1 L2 : Nat → Int32} {i w : Int} {x : Int32} (h : smK L L1) (e : L2 = upd L1 (6 * i + w).toNat x) (h0 : 0 ≤ i) (h1 : i ≤ 39) (w3 : 3 ≤ w) (w5 : w ≤ 5) : smK L L2 := fun j v j0 j1 v0 v1 => by
  rw [e, pk_un (by omega)]; exact h j v j0 j1 v0 v1
theorem smK.tr {L L1 L2 : Nat → Int32} (h : smK L L1) (g : smK L1 L2) : smK L L2 := fun j v j0 j1 v0 v1 => (g j v j0 j1 v0 v1).trans (h j v j0 j1 v0 v1)
theorem smK.cp {L L1 : Nat → Int32} (h : ∀ j : Nat, j < 240 → L1 j = L j) : smK L L1 := fun j v j0 j1 v0 v1 => h _ (by omega)
/-- what a FIT's draft has of THE MODEL -/
def drK (mL mQ : Nat → Int32) (mm ms mg : Int32) (dL dQ : Nat → Int32) (dm ds dg : Int32) : Prop := smK mL dL ∧ (∀ j : Nat, j < 16 → dQ j = mQ j) ∧ dm.toInt = mm.toInt ∧ ds.toInt = ms.toInt ∧ dg.toInt = mg.toInt
theorem hasN.in {L : Nat → Int32} {i j : Int} {r x : Int32} (h : cellQ L i 0 r) (hx : x.toInt = nbO r.toInt) (hj : j < x.toInt) (h0 : 0 ≤ j) : 0 ≤ i ∧ i ≤ 39 ∧ j ≤ 2 := by
  have := nbO_le r.toInt
  by_cases q : 0 ≤ i ∧ i ≤ 39
  · exact ⟨q.1, q.2, by omega⟩
  · have hr := h.2 (by omega)
    subst hr
    rw [show nbO ((-4 : Int32).toInt) = 0 by decide] at hx
    omega
theorem rdR.bno {B : Int → Int} {n r m st gt : Int} {x : Int32} {L Q : Nat → Int32} (h : rdR B n r L Q m st gt) (hx : x.toInt = -2) (hr : r ≠ -4 ∨ st = 0) : resB B n x := by
  obtain ⟨j, p, w, h1, h2, h3⟩ := h.stop
  refine ⟨j, p, w, gt, st, h1, ?_⟩
  rw [if_neg, hx]
  intro ⟨q1, q2⟩
  rcases hr with q | q
  · rw [if_pos q1] at h3; exact q h3
  · omega
theorem rdR.byes {B : Int → Int} {n m st gt : Int} {x : Int32} {L Q : Nat → Int32} (h : rdR B n (-4) L Q m st gt) (hn : 0 ≤ n) (hs : st ≠ 0) (hx : x.toInt = m) : resB B n x := by
  have hst : 0 ≤ st := by obtain ⟨j, p, ⟨_, w, _, _, _, _, q, _⟩, _⟩ := h; exact q
  obtain ⟨j, p, w, h1, h2, h3⟩ := h.stop
  refine ⟨j, p, w, gt, st, h1, ?_⟩
  have h4 : n ≤ p := by
    by_cases q : n ≤ p
    · exact q
    · rw [if_neg q] at h3; have := h1.2.1.pos; omega
  rw [if_pos ⟨h4, by omega⟩, hx]
  exact h2
/-- an ITEM that may stand for ITEM i -/
def mayR (L Q R : Nat → Int32) (i : Int) : Prop := wellR R ∧ ((L (6 * i).toNat).toInt = 115 ∨ (R 0).toInt = 115 → (L (6 * i).toNat).toInt = (R 0).toInt ∧ (L (6 * i + 1).toNat).toInt = (R 1).toInt) ∧ (¬ ((L (6 * i).toNat).toInt = 115 ∨ (R 0).toInt = 115) → nmA Q R i ∧ ((L (6 * i).toNat).toInt = 103 ↔ (R 0).toInt = 103))
theorem cellQ.at {L : Nat → Int32} {i w j : Int} {r : Int32} (h : cellQ L i w r) (h0 : 0 ≤ i) (h1 : i ≤ 39) (w0 : 0 ≤ w) (w1 : w ≤ 5) (e : j = 6 * i + w) : r.toInt = (L j.toNat).toInt := by rw [e, h.1 ⟨h0, h1, w0, w1⟩]
