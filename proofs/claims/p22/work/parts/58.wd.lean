/-! the CIRCUIT that both hold -/
/-- the class's rows and the reference's: NAMES, kinds, DELAYS, GATES, how many are in the ( ) -/
def CEa (b c : Nat) (M : Nat → Nat) (S0 Y : SS) : Prop := ∀ i, i < c → (gB S0 2 i = gB Y 11 (60 * b + i) ∧ gA Y 12 (60 * b + i) = gA S0 4 i ∧ gA Y 15 (60 * b + i) = gA S0 6 i) ∧ (gA S0 4 i = 0 ∨ gA S0 4 i = 1 ∨ gA S0 4 i = 2 ∨ gA S0 4 i = 3) ∧ (gA S0 4 i = 2 → gA Y 13 (60 * b + i) = gm (gA S0 5 i) ∧ IV 0 8 (gA S0 5 i) ∧ (sl_f (gA S0 5 i).toNatClampNeg).toInt ≤ M i ∧ M i ≤ (sm_f (gA S0 5 i).toNatClampNeg).toInt) ∧ (gA S0 4 i = 3 → 1 ≤ M i ∧ M i ≤ 2) ∧ M i ≤ 6 ∧ gA Y 14 (60 * b + i) = nI (M i) ∧ gA S0 8 i = nI (if gA S0 4 i = 1 then 2 * M i else M i)
noncomputable def HN (M : Nat → Nat) (S0 : SS) (i : Nat) : Nat := if gA S0 4 i = 1 then 2 * M i else M i
/-- the NODES in them -/
def CEp (b c : Nat) (M : Nat → Nat) (S0 Y : SS) : Prop := ∀ i j, i < c → j < HN M S0 i → ∃ y, y < c ∧ gA S0 7 (12 * i + j) = nI y ∧ gA Y 16 (12 * (60 * b + i) + j) = nI y
/-- which DRIVER is an if0 -/
def CEl (b c : Nat) (M : Nat → Nat) (S0 Y : SS) : Prop := ∀ i j, i < c → gA S0 4 i = 1 → j < M i → (bI (gA S0 9 i) j = true ∧ gA Y 19 (6 * (60 * b + i) + j) = 0) ∨ (¬ bI (gA S0 9 i) j = true ∧ gA Y 19 (6 * (60 * b + i) + j) = 1)
/-- what a NODE hangs on -/
def CEh (c : Nat) (E : Nat → Nat → Prop) (M : Nat → Nat) (S0 : SS) : Prop := (∀ i y, i < c → (E i y ↔ y < c ∧ gA S0 4 i ≠ 3 ∧ ∃ j, j < HN M S0 i ∧ gA S0 7 (12 * i + j) = nI y)) ∧ ∀ i y, i < c → y < 64 → (bL (gB S0 10 i) y = true ↔ E i y)
def CEo (b c : Nat) (E : Nat → Nat → Prop) (S0 Y : SS) : Prop := OD E c c (gA S0 12) ∧ OL E c c (gA S0 12) (gA S0 11) ∧ (∀ y, y < c → PLC c (gA S0 12) y) ∧ LVA E c b (gA Y 17)
def CE (b c : Nat) (E : Nat → Nat → Prop) (M : Nat → Nat) (S0 Y : SS) : Prop := (c ≤ 60 ∧ b ≤ 1 ∧ gI S0 0 = nI c ∧ gI Y 29 = nI c ∧ gI Y 30 = nI b) ∧ CEa b c M S0 Y ∧ CEp b c M S0 Y ∧ CEl b c M S0 Y ∧ CEh c E M S0 ∧ CEo b c E S0 Y ∧ gI S0 1 = nI (cn (fun i => gA S0 4 i = 3) c)
theorem CE_mk {b : Nat} {C : Ct} {S0 Z Y : SS} (hb1 : b ≤ 1) (h30 : gI Y 30 = nI b) (h29 : gI Y 29 = nI (cC C)) (rd : RDY b C S0 Z) (sb : SB b Z Y) : ∃ M, CE b (cC C) (EG C) M S0 Y := by
  obtain ⟨⟨U, lk, k0, od, ol, pl⟩, ⟨X, Y1, ln, f3, rk, f17⟩, lva, gb, tri, ok, ac⟩ := rd
  obtain ⟨hc, uv, b6, h6⟩ := gb
  obtain ⟨⟨⟨u0, _⟩, ⟨u2, u3, u4, u5, u6⟩, u1⟩, l8, l7, ld, l10, l9⟩ := id lk
  obtain ⟨r14, r16, rdv⟩ := rk
  obtain ⟨sb1, sb2, sb3⟩ := sb
  have s4 : gA S0 4 = cKd C := by rw [k0.2.1 4 (by decide) (by decide)]; exact u4
  have s5 : gA S0 5 = cGt C := by rw [k0.2.1 5 (by decide) (by decide)]; exact u5
  have s6 : gA S0 6 = cDl C := by rw [k0.2.1 6 (by decide) (by decide)]; exact u6
  have s7 : gA S0 7 = gA U 7 := k0.2.1 7 (by decide) (by decide)
  have s8 : gA S0 8 = gA U 8 := k0.2.1 8 (by decide) (by decide)
  have s9 : gA S0 9 = gA U 9 := k0.2.1 9 (by decide) (by decide)
  have s2 : gB S0 2 = cNm C := by rw [k0.2.2]; exact u2
  have s10 : gB S0 10 = gB U 10 := k0.2.2 10
  have z1 : ∀ k, k ≠ 17 → k ≠ 32 → k ≠ 14 → k ≠ 16 → k ≠ 19 → gA Z k = gA X k := fun k a1 a2 a3 a4 a5 => by rw [f17.2.1 k a1 a2, f3.2.1 k a3 a4 a5]
  have ro : ∀ i q, i < cC C → q < cU C → cUr C q = nI i → cKd C i = 2 ∨ cKd C i = 3 := fun i q hi hq z => by
    rcases uv q hq with y | y | ⟨j, hj, y, y2⟩
    · rw [z] at y; exact absurd y (nd_h (by omega)).1
    · rw [z] at y; exact absurd y (nd_h (by omega)).2
    · rw [z] at y
      have : i = j := (nI_eq (by omega) (by omega)).mp y
      rw [this]
      exact y2
  have hd : ∀ i h, i < cC C → h < cU C → isHd (cUr C h) → xq C h = nI i → cKd C i = 1 := fun i h hi hh z1 z2 => by
    obtain ⟨j, hj, e1, e2⟩ := BU_no (ok h hh) hc
    rw [z2] at e1
    have : i = j := (nI_eq (by omega) (by omega)).mp e1
    rw [this]
    exact e2 z1
  have xv : ∀ q, q < cU C → ∃ y, y < cC C ∧ xq C q = nI y := fun q hq => by
    obtain ⟨j, hj, e1, _⟩ := BU_no (ok q hq) hc
    exact ⟨j, hj, e1⟩
  -- the two rows of parts
  have pa : ∀ i j, i < cC C → j < pc C i (cU C) → ∃ y, y < cC C ∧ gA U 7 (12 * i + j) = nI y ∧ gA Y1 16 (12 * (60 * b + i) + j) = nI y := fun i j hi hj => by
    unfold pc at hj
    by_cases k1 : cKd C i = 1
    · rw [if_pos k1] at hj
      obtain ⟨h, h1, ⟨h2, h3⟩, h4⟩ := cn_surj (P := fun q => isHd (cUr C q) ∧ xq C q = nI i) (show j / 2 < hb C i (cU C) by omega)
      have h4 : hb C i h = j / 2 := h4
      obtain ⟨t1, t2, t3⟩ := tri.1 h h1 h2
      obtain ⟨d1, d2, _⟩ := rdv h i h1 (cn_lt (P := fun j => isHd (cUr C j)) h1 h2) hi h2 h3
      obtain ⟨e1, e2⟩ := ld h i h1 hi h2 h3
      rw [h4] at d1 d2 e1 e2
      by_cases ev : j % 2 = 0
      · obtain ⟨y, hy, ey⟩ := xv (h + 1) (by omega)
        refine ⟨y, hy, ?_, ?_⟩
        · rw [show j = 2 * (j / 2) by omega, e1, ey]
        · rw [show j = 2 * (j / 2) by omega, d1, ey]
      · obtain ⟨y, hy, ey⟩ := xv (h + 2) (by omega)
        refine ⟨y, hy, ?_, ?_⟩
        · rw [show j = 2 * (j / 2) + 1 by omega, e2, ey]
        · rw [show j = 2 * (j / 2) + 1 by omega, d2, ey]
    · rw [if_neg k1] at hj
      obtain ⟨q, q1, q2, q3⟩ := cn_surj (P := fun q => cUr C q = nI i) hj
      have q3 : nn C i q = j := q3
      obtain ⟨y, hy, ey⟩ := xv q q1
      have d := r16 q i q1 hi q2
      have e := l7 q i q1 hi q2
      rw [q3] at d e
      exact ⟨y, hy, e.trans ey, d.trans ey⟩
  have hn : ∀ i, HN (fun i => if cKd C i = 1 then hb C i (cU C) else nn C i (cU C)) S0 i = pc C i (cU C) := fun i => by
    unfold HN pc
    rw [s4]
    by_cases q : cKd C i = 1
    · rw [if_pos q, if_pos q]
      exact congrArg (fun x => 2 * x) (if_pos q)
    · rw [if_neg q, if_neg q]
      exact if_neg q
  have p12 : ∀ i, i < cC C → pc C i (cU C) ≤ 12 := fun i hi => by
    have := b6 i hi
    have := h6 i hi
    unfold pc
    split <;> omega
  refine ⟨fun i => if cKd C i = 1 then hb C i (cU C) else nn C i (cU C), ⟨hc, hb1, by rw [k0.1]; exact u0, h29, h30⟩, fun i hi => ?_, fun i j hi hj => ?_, fun i j hi ki hj => ?_, ⟨fun i y hi => ?_, fun i y hi hy => ?_⟩, ⟨od, ol, pl, fun i hi => ?_⟩, ?_⟩
  · obtain ⟨a1, a2, a3, a4, a5, a6⟩ := sb1 i (by omega)
    obtain ⟨⟨_, _, no⟩, _, _, mn, _, _, fi, kd⟩ := ln
    obtain ⟨n1, n2, n3, _⟩ := no i hi
    obtain ⟨f2, f3'⟩ := fi i hi
    have nu2 : cKd C i = 2 ∨ cKd C i = 3 → nn C i (cU C) = (if cKd C i = 1 then hb C i (cU C) else nn C i (cU C)) := fun q => by
      rw [if_neg (by rcases q with q | q <;> rw [q] <;> decide)]
    rw [s2, s4, s5, s6, a1, a2, a3, a4, a5]
    refine ⟨⟨?_, ?_, ?_⟩, kd i hi, fun k2 => ?_, fun k3 => ?_, ?_, ?_, ?_⟩
    · rw [f17.2.2, f3.2.2]; exact n1.symm
    · rw [z1 12 (by decide) (by decide) (by decide) (by decide) (by decide)]; exact n2
    · rw [z1 15 (by decide) (by decide) (by decide) (by decide) (by decide)]; exact n3
    · rw [z1 13 (by decide) (by decide) (by decide) (by decide) (by decide)]
      show _ ∧ _ ∧ _ ≤ (((if cKd C i = 1 then hb C i (cU C) else nn C i (cU C)) : Nat) : Int) ∧ (((if cKd C i = 1 then hb C i (cU C) else nn C i (cU C)) : Nat) : Int) ≤ _
      rw [← nu2 (Or.inl k2)]
      exact f2 k2
    · show 1 ≤ (if cKd C i = 1 then hb C i (cU C) else nn C i (cU C)) ∧ (if cKd C i = 1 then hb C i (cU C) else nn C i (cU C)) ≤ 2
      rw [← nu2 (Or.inr k3)]
      exact f3' k3
    · show (if cKd C i = 1 then hb C i (cU C) else nn C i (cU C)) ≤ 6
      have := b6 i hi
      have := h6 i hi
      split <;> omega
    · rw [f17.2.1 14 (by decide) (by decide)]
      exact r14 i hi
    · rw [s8, l8 i hi]
      unfold pc
      by_cases q : cKd C i = 1
      · rw [if_pos q, if_pos q]
        exact congrArg (fun x => nI (2 * x)) (if_pos q).symm
      · rw [if_neg q, if_neg q]
        exact congrArg nI (if_neg q).symm
  · rw [hn] at hj
    have := p12 i hi
    obtain ⟨y, hy, e1, e2⟩ := pa i j hi hj
    refine ⟨y, hy, by rw [s7]; exact e1, ?_⟩
    have e3 := sb2 (12 * i + j) (by omega)
    rw [show 720 * b + (12 * i + j) = 12 * (60 * b + i) + j by omega] at e3
    rw [e3, f17.2.1 16 (by decide) (by decide)]
    exact e2
  · rw [s4] at ki
    have hj : j < (if cKd C i = 1 then hb C i (cU C) else nn C i (cU C)) := hj
    rw [if_pos ki] at hj
    have := h6 i hi
    obtain ⟨h, h1, ⟨h2, h3⟩, h4⟩ := cn_surj (P := fun q => isHd (cUr C q) ∧ xq C q = nI i) hj
    have h4 : hb C i h = j := h4
    obtain ⟨_, _, d3⟩ := rdv h i h1 (cn_lt (P := fun j => isHd (cUr C j)) h1 h2) hi h2 h3
    rw [h4] at d3
    have e3 := sb3 (6 * i + j) (by omega)
    rw [show 360 * b + (6 * i + j) = 6 * (60 * b + i) + j by omega] at e3
    rw [e3, f17.2.1 19 (by decide) (by decide), d3, s9, l9 i j hi (by omega)]
    rcases h2 with h2 | h2
    · refine Or.inr ⟨fun ⟨h', a1, a2, a3, a4, a5⟩ => ?_, by rw [if_pos h2]⟩
      have : h' = h := by
        rcases Nat.lt_trichotomy h' h with u | u | u
        · have : hb C i h' < hb C i h := cn_lt (P := fun q => isHd (cUr C q) ∧ xq C q = nI i) u ⟨a2, a3⟩
          omega
        · exact u
        · have : hb C i h < hb C i h' := cn_lt (P := fun q => isHd (cUr C q) ∧ xq C q = nI i) u ⟨Or.inl h2, h3⟩
          omega
      rw [this, h2] at a5
      exact absurd a5 (by decide)
    · exact Or.inl ⟨⟨h, h1, Or.inr h2, h3, h4, h2⟩, by rw [if_neg (by rw [h2]; decide)]⟩
  · rw [hn, s4, s7]
    constructor
    · rintro ⟨e0, e1, ⟨q, q1, q2, q3⟩ | ⟨h, h1, h2, h3, h4⟩⟩
      · refine ⟨e0, e1, nn C i q, ?_, by rw [l7 q i q1 hi q2]; exact q3⟩
        have k1 : ¬ cKd C i = 1 := fun u => by
          rcases ro i q hi q1 q2 with v | v <;> rw [u] at v <;> exact absurd v (by decide)
        unfold pc
        rw [if_neg k1]
        exact cn_lt (P := fun q => cUr C q = nI i) q1 q2
      · have lt : hb C i h < hb C i (cU C) := cn_lt (P := fun q => isHd (cUr C q) ∧ xq C q = nI i) h1 ⟨h2, h3⟩
        have k1 := hd i h hi h1 h2 h3
        obtain ⟨d1, d2⟩ := ld h i h1 hi h2 h3
        rcases h4 with h4 | h4
        · refine ⟨e0, e1, 2 * hb C i h, ?_, by rw [d1]; exact h4⟩
          unfold pc
          rw [if_pos k1]
          omega
        · refine ⟨e0, e1, 2 * hb C i h + 1, ?_, by rw [d2]; exact h4⟩
          unfold pc
          rw [if_pos k1]
          omega
    · rintro ⟨e0, e1, j, j1, j2⟩
      refine ⟨e0, e1, ?_⟩
      unfold pc at j1
      by_cases k1 : cKd C i = 1
      · rw [if_pos k1] at j1
        obtain ⟨h, h1, ⟨h2, h3⟩, h4⟩ := cn_surj (P := fun q => isHd (cUr C q) ∧ xq C q = nI i) (show j / 2 < hb C i (cU C) by omega)
        have h4 : hb C i h = j / 2 := h4
        obtain ⟨d1, d2⟩ := ld h i h1 hi h2 h3
        rw [h4] at d1 d2
        refine Or.inr ⟨h, h1, h2, h3, ?_⟩
        by_cases ev : j % 2 = 0
        · rw [show j = 2 * (j / 2) by omega, d1] at j2
          exact Or.inl j2
        · rw [show j = 2 * (j / 2) + 1 by omega, d2] at j2
          exact Or.inr j2
      · rw [if_neg k1] at j1
        obtain ⟨q, q1, q2, q3⟩ := cn_surj (P := fun q => cUr C q = nI i) j1
        have q3 : nn C i q = j := q3
        have e := l7 q i q1 hi q2
        rw [q3, j2] at e
        exact Or.inl ⟨q, q1, q2, e.symm⟩
  · rw [s10]
    exact LK_E64 lk ⟨hc, uv, b6, h6⟩ tri ok i y hi hy
  · obtain ⟨m, m1, m2, m3, m4⟩ := lva i hi
    have e : ∀ y, y < cC C → gA Y 17 (60 * b + y) = gA Z 17 (60 * b + y) := fun y hy => (sb1 y (by omega)).2.2.2.2.2
    refine ⟨m, by rw [e i hi]; exact m1, m2, fun y q => by rw [e y q.1]; exact m3 y q, ?_⟩
    rcases m4 with m4 | ⟨y, r, y1, y2, y3⟩
    · exact Or.inl m4
    · exact Or.inr ⟨y, r, y1, by rw [e y y1.1]; exact y2, y3⟩
  · rw [k0.1, s4]
    exact u1
theorem CE_0 {b : Nat} {S0 Y : SS} (hb : b ≤ 1) (h30 : gI Y 30 = nI b) (h0 : gI S0 0 = 0) (h1 : gI S0 1 = 0) (h29 : gI Y 29 = 0) : CE b 0 (fun _ _ => False) (fun _ => 0) S0 Y := ⟨⟨Nat.zero_le _, hb, h0, h29, h30⟩, fun i hi => absurd hi (Nat.not_lt_zero _), fun i j hi => absurd hi (Nat.not_lt_zero _), fun i j hi => absurd hi (Nat.not_lt_zero _), ⟨fun i y hi => absurd hi (Nat.not_lt_zero _), fun i y hi => absurd hi (Nat.not_lt_zero _)⟩, ⟨⟨fun k hk => absurd hk (Nat.not_lt_zero _), fun k k' hk => absurd hk (Nat.not_lt_zero _)⟩, fun k i hk => absurd hk (Nat.not_lt_zero _), fun y hy => absurd hy (Nat.not_lt_zero _), fun i hi => absurd hi (Nat.not_lt_zero _)⟩, h1⟩
theorem OD_E {E : Nat → Nat → Prop} {c : Nat} {f : Nat → Int32} (h : OD E c c f) (hc : c ≤ 60) {k i : Nat} (hk : k < c) (hi : i < c) (e : f k = nI i) : ∀ y, E i y → ∃ k', k' < k ∧ f k' = nI y := by
  obtain ⟨i', i1, i2, i3⟩ := h.1 k hk
  rw [e] at i2
  have : i = i' := (nI_eq (by omega) (by omega)).mp i2
  rw [this]
  exact i3
/-- the levels are the same -/
theorem CE_lv {b c : Nat} {E : Nat → Nat → Prop} {M : Nat → Nat} {S0 Y : SS} (h : CE b c E M S0 Y) : ∀ k, k < c → ∀ i, i < c → gA S0 12 k = nI i → gA Y 17 (60 * b + i) = gA S0 11 i := by
  obtain ⟨⟨hc, hb, _⟩, _, _, _, ⟨he, _⟩, ⟨od, ol, pl, lva⟩, _⟩ := h
  intro k
  induction k using Nat.strongRecOn with
  | ind k ih =>
    intro hk i hi e
    obtain ⟨m, m1, m2, m3, m4⟩ := ol k i hk hi e
    obtain ⟨m', a1, a2, a3, a4⟩ := lva i hi
    have eq : ∀ y, E i y → y < c ∧ gA Y 17 (60 * b + y) = gA S0 11 y := fun y q => by
      have yc := ((he i y hi).mp q).1
      obtain ⟨k', k1, k2⟩ := OD_E od hc hk hi e y q
      exact ⟨yc, ih k' k1 (by omega) y yc k2⟩
    have lt : ∀ y r r', E i y → gA Y 17 (60 * b + y) = nI r → r < m' → gA S0 11 y = nI r' → r' < m → r = r' := fun y r r' q e1 l1 e2 l2 => by
      rw [(eq y q).2, e2] at e1
      exact ((nI_eq (by omega) (by omega)).mp e1).symm
    rw [a1, m1]
    refine congrArg nI (Nat.le_antisymm ?_ ?_)
    · rcases a4 with a4 | ⟨y, r, y1, y2, y3⟩
      · omega
      · obtain ⟨r', r1, r2⟩ := m3 y y1
        have := lt y r r' y1 y2 (by omega) r1 r2
        omega
    · rcases m4 with m4 | ⟨y, r, y1, y2, y3⟩
      · omega
      · obtain ⟨r', r1, r2⟩ := a3 y y1
        have := lt y r' r y1 r1 r2 y2 (by omega)
        omega
theorem CE_lv' {b c : Nat} {E : Nat → Nat → Prop} {M : Nat → Nat} {S0 Y : SS} (h : CE b c E M S0 Y) {i : Nat} (hi : i < c) : gA Y 17 (60 * b + i) = gA S0 11 i := by
  obtain ⟨k, k1, k2⟩ := h.2.2.2.2.2.1.2.2.1 i hi
  exact CE_lv h k k1 i hi k2
theorem CR_CE {S0 S7 : SS} (h : CR S0 S7) (h30 : IV 0 1 (gI S7 30)) : ∃ b c E M, CE b c E M S0 S7 := by
  rcases h with ⟨a1, ar, a2⟩ | ⟨b, C, Z, a1, a2, a3, a4, a5⟩
  · refine ⟨(gI S7 30).toInt.toNat, 0, _, _, CE_0 (by have := h30.2; omega) ?_ a1 ar a2⟩
    apply Int32.toInt_inj.mp
    have := h30.1
    have := h30.2
    rw [nI_toInt (by omega)]
    omega
  · obtain ⟨M, hM⟩ := CE_mk a1 a2 a3 a4 a5
    exact ⟨b, _, _, M, hM⟩
