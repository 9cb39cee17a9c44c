/-! what hangs on what, as the reference holds it -/
noncomputable def HG (C : Ct) (i : Nat) : Nat := if cKd C i = 2 then nn C i (cU C) else if cKd C i = 1 then 2 * hb C i (cU C) else 0
theorem RG_mk {b : Nat} {C : Ct} {X Y : SS} (ln : LN b C X (cC C)) (tri : TRI C) (g : GB C) (ok : ∀ q, q < cU C → ¬ BU C q) (f3 : F3 X Y) (rk : RK b C Y) : RG (EG C) (cC C) b (HG C) Y := by
  obtain ⟨⟨⟨x30, hb1⟩, ⟨x26, hc⟩, no⟩, us, uv, mn, dv, lh, fi, kd⟩ := ln
  obtain ⟨_, _, b6, h6⟩ := g
  obtain ⟨fI, fA, fB⟩ := f3
  obtain ⟨r14, r16, rd⟩ := rk
  have ro : ∀ i q, i < cC C → q < cU C → cUr C q = nI i → cKd C i = 2 ∨ cKd C i = 3 := fun i q hi hq z => by
    rcases uv q hq with y | y | ⟨j, hj, y, y2⟩
    · rw [z] at y; exact absurd y (nd_h (by omega)).1
    · rw [z] at y; exact absurd y (nd_h (by omega)).2
    · rw [z] at y
      have : i = j := (nI_eq (by omega) (by omega)).mp y
      rw [this]
      exact y2
  have hd : ∀ i h, i < cC C → h < cU C → isHd (cUr C h) → xq C h = nI i → cKd C i = 1 := fun i h hi hh z1 z2 => by
    obtain ⟨j, hj, e1, e2⟩ := BU_no (ok h hh) hc
    rw [z2] at e1
    have : i = j := (nI_eq (by omega) (by omega)).mp e1
    rw [this]
    exact e2 z1
  have xv : ∀ q, q < cU C → ∃ y, y < cC C ∧ xq C q = nI y := fun q hq => by
    obtain ⟨j, hj, e1, _⟩ := BU_no (ok q hq) hc
    exact ⟨j, hj, e1⟩
  refine ⟨⟨by rw [fI]; exact x26, hc⟩, ⟨by rw [fI]; exact x30, hb1⟩, fun i hi => ?_⟩
  have k12 : gA Y 12 (60 * b + i) = cKd C i := by rw [fA 12 (by decide) (by decide) (by decide)]; exact (no i hi).2.1
  have k14 := r14 i hi
  rcases kd i hi with k0 | k0 | k0 | k0
  · have hg : HG C i = 0 := by unfold HG; rw [if_neg (by rw [k0]; decide), if_neg (by rw [k0]; decide)]
    rw [k12, hg]
    refine ⟨Or.inr (Or.inr ⟨by rw [k0]; decide, by rw [k0]; decide, rfl⟩), by omega, fun j hj => absurd hj (Nat.not_lt_zero _), fun y e => ?_⟩
    obtain ⟨hyc, _, ⟨q, q1, q2, _⟩ | ⟨h, h1, h2, h3, _⟩⟩ := e
    · have := ro i q hi q1 q2
      rw [k0] at this
      rcases this with u | u <;> exact absurd u (by decide)
    · have := hd i h hi h1 h2 h3
      rw [k0] at this
      exact absurd this (by decide)
  · have hg : HG C i = 2 * hb C i (cU C) := by unfold HG; rw [if_neg (by rw [k0]; decide), if_pos k0]
    rw [if_pos k0] at k14
    have h6i := h6 i hi
    rw [k12, hg]
    refine ⟨Or.inr (Or.inl ⟨k0, _, k14, rfl⟩), by omega, fun j hj => ?_, fun y e => ?_⟩
    · obtain ⟨h, h1, ⟨h2, h3⟩, h4⟩ := cn_surj (P := fun q => isHd (cUr C q) ∧ xq C q = nI i) (show j / 2 < hb C i (cU C) by omega)
      have h4 : hb C i h = j / 2 := h4
      obtain ⟨t1, t2, t3⟩ := tri.1 h h1 h2
      obtain ⟨d1, d2, _⟩ := rd h i h1 (cn_lt (P := fun j => isHd (cUr C j)) h1 h2) hi h2 h3
      rw [h4] at d1 d2
      by_cases ev : j % 2 = 0
      · obtain ⟨y, hy, ey⟩ := xv (h + 1) (by omega)
        refine ⟨y, hy, ?_, hy, by rw [k0]; decide, Or.inr ⟨h, h1, h2, h3, Or.inl ey⟩⟩
        rw [show j = 2 * (j / 2) by omega, d1, ey]
      · obtain ⟨y, hy, ey⟩ := xv (h + 2) (by omega)
        refine ⟨y, hy, ?_, hy, by rw [k0]; decide, Or.inr ⟨h, h1, h2, h3, Or.inr ey⟩⟩
        rw [show j = 2 * (j / 2) + 1 by omega, d2, ey]
    · obtain ⟨hyc, _, ⟨q, q1, q2, _⟩ | ⟨h, h1, h2, h3, h4⟩⟩ := e
      · have := ro i q hi q1 q2
        rw [k0] at this
        rcases this with u | u <;> exact absurd u (by decide)
      · obtain ⟨t1, t2, t3⟩ := tri.1 h h1 h2
        obtain ⟨d1, d2, _⟩ := rd h i h1 (cn_lt (P := fun j => isHd (cUr C j)) h1 h2) hi h2 h3
        have lt : hb C i h < hb C i (cU C) := cn_lt (P := fun q => isHd (cUr C q) ∧ xq C q = nI i) h1 ⟨h2, h3⟩
        rcases h4 with h4 | h4
        · exact ⟨hyc, 2 * hb C i h, by omega, by rw [d1, h4]⟩
        · exact ⟨hyc, 2 * hb C i h + 1, by omega, by rw [d2, h4]⟩
  · have hg : HG C i = nn C i (cU C) := by unfold HG; rw [if_pos k0]
    rw [if_neg (by rw [k0]; decide)] at k14
    have b6i := b6 i hi
    rw [k12, hg]
    refine ⟨Or.inl ⟨k0, k14⟩, by omega, fun j hj => ?_, fun y e => ?_⟩
    · obtain ⟨q, q1, q2, q3⟩ := cn_surj (P := fun q => cUr C q = nI i) hj
      have q3 : nn C i q = j := q3
      obtain ⟨y, hy, ey⟩ := xv q q1
      have d := r16 q i q1 hi q2
      rw [q3] at d
      exact ⟨y, hy, by rw [d, ey], hy, by rw [k0]; decide, Or.inl ⟨q, q1, q2, ey⟩⟩
    · obtain ⟨hyc, _, ⟨q, q1, q2, q3⟩ | ⟨h, h1, h2, h3, _⟩⟩ := e
      · exact ⟨hyc, nn C i q, cn_lt (P := fun q => cUr C q = nI i) q1 q2, by rw [r16 q i q1 hi q2, q3]⟩
      · have := hd i h hi h1 h2 h3
        rw [k0] at this
        exact absurd this (by decide)
  · have hg : HG C i = 0 := by unfold HG; rw [if_neg (by rw [k0]; decide), if_neg (by rw [k0]; decide)]
    rw [k12, hg]
    exact ⟨Or.inr (Or.inr ⟨by rw [k0]; decide, by rw [k0]; decide, rfl⟩), by omega, fun j hj => absurd hj (Nat.not_lt_zero _), fun y e => absurd k0 e.2.1⟩
theorem LK_E {C : Ct} {S : SS} (h : LK C (cU C) S) : ∀ i j, i < cC C → j < cC C → (bL (gB S 10 i) j = true ↔ EG C i j) := by
  intro i j hi hj
  have hc := h.1.1.2
  rw [h.2.2.2.2.1 i j hi (by omega)]
  exact ⟨fun q => ⟨hj, q⟩, fun q => q.2⟩
/-! the class's answer is the one that TT tells -/
theorem zI_m {V E : Type} {b : V → Option (V ⊕ E)} : ∀ {n : Nat} {v : V} {e : E} (m : Nat), zI b n v = some e → zI b (n + m) v = some e := by
  intro n
  induction n with
  | zero => intro v e m h; cases h
  | succ n ih =>
    intro v e m h
    obtain ⟨x, hx, q⟩ := zI_spec h
    rw [show n + 1 + m = (n + m) + 1 by omega]
    cases x with
    | inl w => rw [zI_1 hx]; exact ih m q
    | inr w =>
      rw [zI_e hx]
      exact congrArg some q
theorem TT_u {f : Nat → Int32} {v : Cf} {r r' : Int32 × SS × SS × SS} (h : zS (zI (b_X3_takeTokens_14 f) zF v) ktl = some r') (g : TT f v r) : r' = r := by
  obtain ⟨x, hx, _⟩ := zS_spec h
  obtain ⟨m, g⟩ := g
  have g := g zF
  rw [zI_m m hx] at g
  rw [hx] at h
  exact Option.some.inj (h.symm.trans g)
