/-! the wheel: BUSES -/
/-- each NODE has been changed once, or not at all -/
def EF6 (c : Nat) (S T : SS) : Prop := (∀ k, gI T k = gI S k) ∧ (gA T 3 = gA S 3 ∧ gA T 4 = gA S 4) ∧ (∀ i, i < c → (gA T 2 i = gA S 2 i → gA T 6 i = gA S 6 i ∧ ∀ k, k < 20 → gA T 5 (20 * i + k) = gA S 5 (20 * i + k)) ∧ (gA T 2 i ≠ gA S 2 i → W6 S T i (gA T 2 i))) ∧ ∀ y, y < 64 → (bL (gL T 7) y = true ↔ bL (gL S 7) y = true ∨ (y < c ∧ gA T 2 y ≠ gA S 2 y))
theorem EF6_r (c : Nat) (S : SS) : EF6 c S S := ⟨fun _ => rfl, ⟨rfl, rfl⟩, fun i _ => ⟨fun _ => ⟨rfl, fun _ _ => rfl⟩, fun q => absurd rfl q⟩, fun y _ => ⟨fun q => Or.inl q, fun q => by rcases q with q | q; exact q; exact absurd rfl q.2⟩⟩
theorem W6_s {S T U : SS} {i : Nat} {v : Int32} (hI : ∀ k, gI T k = gI S k) (h6 : gA T 6 i = gA S 6 i) (h5 : ∀ k, k < 20 → gA T 5 (20 * i + k) = gA S 5 (20 * i + k)) (h : W6 T U i v) : W6 S U i v := by
  unfold W6 at h ⊢
  rw [h6] at h
  rcases h with ⟨a1, a2, a3⟩ | ⟨a1, a2, a3⟩
  · exact Or.inl ⟨a1, a2, fun k hk => (a3 k hk).trans (h5 k hk)⟩
  · refine Or.inr ⟨a1, a2, fun k hk => ?_⟩
    rw [a3 k hk, hI, h5 k hk]
theorem W6_u {S T U : SS} {i : Nat} {v : Int32} (h6 : gA U 6 i = gA T 6 i) (h5 : ∀ k, k < 20 → gA U 5 (20 * i + k) = gA T 5 (20 * i + k)) (h : W6 S T i v) : W6 S U i v := by
  rcases h with ⟨a1, a2, a3⟩ | ⟨a1, a2, a3⟩
  · exact Or.inl ⟨a1, h6.trans a2, fun k hk => (h5 k hk).trans (a3 k hk)⟩
  · exact Or.inr ⟨a1, h6.trans a2, fun k hk => (h5 k hk).trans (a3 k hk)⟩
theorem EF6_s {c : Nat} {S T U : SS} {i : Nat} {v : Int32} (hc : c ≤ 60) (hi : i < c) (hn : ∀ j, j < c → ∃ n, n ≤ 20 ∧ gA S 6 j = nI n) (h : EF6 c S T) (hu : gA T 2 i = gA S 2 i) (hv : v ≠ gA S 2 i) (ch : CH6 T U i v) : EF6 c S U := by
  obtain ⟨hI, ⟨h3, h4⟩, hw, hb⟩ := h
  obtain ⟨t6, t5⟩ := (hw i hi).1 hu
  obtain ⟨n, n1, n2⟩ := hn i hi
  obtain ⟨w, oth⟩ := CH6_W hc hi (by rw [t6]; exact n2) n1 ch
  obtain ⟨cI, ⟨c2, c3, c4⟩, c7, _⟩ := ch
  refine ⟨fun k => (cI k).trans (hI k), ⟨c3.trans h3, c4.trans h4⟩, fun j hj => ?_, fun y hy => ?_⟩
  · by_cases e : j = i
    · subst e
      rw [c2, pk_us]
      exact ⟨fun q => absurd q hv, fun _ => W6_s hI t6 t5 w⟩
    · rw [c2, pk_un e]
      obtain ⟨o6, o5⟩ := oth j hj e
      refine ⟨fun q => ?_, fun q => W6_u o6 o5 ((hw j hj).2 q)⟩
      obtain ⟨a, b⟩ := (hw j hj).1 q
      exact ⟨o6.trans a, fun k hk => (o5 k hk).trans (b k hk)⟩
  · rw [c7, bL_or, Bool.or_eq_true, hb y hy, bL_s (by omega) hy, c2]
    by_cases e : y = i
    · subst e
      rw [pk_us]
      exact ⟨fun _ => Or.inr ⟨hi, hv⟩, fun _ => Or.inr rfl⟩
    · rw [pk_un e]
      constructor
      · rintro (q | q)
        · exact q
        · exact absurd q e
      · exact fun q => Or.inl q
def EF7 (c : Nat) (S T : SS) : Prop := ((∀ k, gI T k = gI S k) ∧ (∀ k, k ≠ 40 → k ≠ 43 → k ≠ 44 → k ≠ 45 → gA T k = gA S k) ∧ ∀ k, gB T k = gB S k) ∧ (∀ i, i < c → (gA T 40 i = gA S 40 i → gA T 44 i = gA S 44 i ∧ ∀ k, k < 20 → gA T 43 (20 * i + k) = gA S 43 (20 * i + k)) ∧ (gA T 40 i ≠ gA S 40 i → W7 S T i (gA T 40 i))) ∧ ∀ y, y < c → (gA T 45 y ≠ 0 ↔ gA S 45 y ≠ 0 ∨ gA T 40 y ≠ gA S 40 y)
theorem EF7_r (c : Nat) (S : SS) : EF7 c S S := ⟨⟨fun _ => rfl, fun _ _ _ _ _ => rfl, fun _ => rfl⟩, fun i _ => ⟨fun _ => ⟨rfl, fun _ _ => rfl⟩, fun q => absurd rfl q⟩, fun y _ => ⟨fun q => Or.inl q, fun q => by rcases q with q | q; exact q; exact absurd rfl q⟩⟩
theorem W7_s {S T U : SS} {i : Nat} {v : Int32} (hI : ∀ k, gI T k = gI S k) (h44 : gA T 44 i = gA S 44 i) (h43 : ∀ k, k < 20 → gA T 43 (20 * i + k) = gA S 43 (20 * i + k)) (h : W7 T U i v) : W7 S U i v := by
  unfold W7 at h ⊢
  rw [h44] at h
  refine ⟨h.1, fun k hk => ?_⟩
  rw [h.2 k hk, hI, h43 k hk]
theorem W7_u {S T U : SS} {i : Nat} {v : Int32} (h44 : gA U 44 i = gA T 44 i) (h43 : ∀ k, k < 20 → gA U 43 (20 * i + k) = gA T 43 (20 * i + k)) (h : W7 S T i v) : W7 S U i v := ⟨h44.trans h.1, fun k hk => (h43 k hk).trans (h.2 k hk)⟩
theorem EF7_s {c Bd : Nat} {S T U : SS} {i : Nat} {v : Int32} (hc : c ≤ 60) (hB : Bd ≤ 2000000000) (hi : i < c) (hn : ∀ j, j < c → ∃ n, n ≤ Bd ∧ gA S 44 j = nI n) (h : EF7 c S T) (hu : gA T 40 i = gA S 40 i) (hv : v ≠ gA S 40 i) (ch : CH7 T U i v) : EF7 c S U := by
  obtain ⟨⟨hI, hA, hBB⟩, hw, hb⟩ := h
  obtain ⟨t44, t43⟩ := (hw i hi).1 hu
  obtain ⟨n, n1, n2⟩ := hn i hi
  obtain ⟨w, oth⟩ := CH7_W hc hi (by rw [t44]; exact n2) (by omega) ch
  obtain ⟨⟨cI, cA, cB⟩, ⟨c40, c45, _⟩, _⟩ := ch
  refine ⟨⟨fun k => (cI k).trans (hI k), fun k k1 k2 k3 k4 => (cA k k1 k2 k3 k4).trans (hA k k1 k2 k3 k4), fun k => (cB k).trans (hBB k)⟩, fun j hj => ?_, fun y hy => ?_⟩
  · by_cases e : j = i
    · subst e
      rw [c40, pk_us]
      exact ⟨fun q => absurd q hv, fun _ => W7_s hI t44 t43 w⟩
    · rw [c40, pk_un e]
      obtain ⟨o44, o43⟩ := oth j hj e
      refine ⟨fun q => ?_, fun q => W7_u o44 o43 ((hw j hj).2 q)⟩
      obtain ⟨a, b⟩ := (hw j hj).1 q
      exact ⟨o44.trans a, fun k hk => (o43 k hk).trans (b k hk)⟩
  · rw [c45, c40]
    by_cases e : y = i
    · subst e
      rw [pk_us, pk_us]
      exact ⟨fun _ => Or.inr hv, fun _ => ne10⟩
    · rw [pk_un e, pk_un e]
      exact hb y hy
/-- how many NODES differ -/
theorem cn_ne {c i : Nat} {f g : Nat → Int32} {v : Int32} (hi : i < c) (hu : g i = f i) (hv : v ≠ f i) : cn (fun j => upd g i v j ≠ f j) c = cn (fun j => g j ≠ f j) c + 1 := by
  have a := cn_more (P := fun j => g j ≠ f j) (Q := fun j => upd g i v j ≠ f j) (c := c) (fun y _ q => by
    by_cases e : y = i
    · subst e
      exact absurd hu q
    · show upd g i v y ≠ f y
      rw [pk_un e]
      exact q) ⟨i, hi, by show upd g i v i ≠ f i; rw [pk_us]; exact hv, fun q => q hu⟩
  have b := cn_one (P := fun j => g j ≠ f j) (Q := fun j => upd g i v j ≠ f j) (i := i) (c := c) (fun y _ q => by
    by_cases e : y = i
    · exact Or.inr e
    · have q : upd g i v y ≠ f y := q
      rw [pk_un e] at q
      exact Or.inl q)
  omega
/-- row g: BUSES follow, all others are as in f -/
def BSL (c : Nat) (S0 : SS) (f g : Nat → Int32) : Prop := ∀ i, i < c → (gA S0 4 i = 1 → g i = bvl S0 g i (sz S0 i)) ∧ (gA S0 4 i ≠ 1 → g i = f i)
theorem bvl_E {b c : Nat} {E : Nat → Nat → Prop} {M : Nat → Nat} {S0 Y : SS} (h : CE b c E M S0 Y) {i : Nat} (hi : i < c) (k1 : gA S0 4 i = 1) {f f' : Nat → Int32} (hf : ∀ y, y < c → E i y → f y = f' y) : bvl S0 f i (sz S0 i) = bvl S0 f' i (sz S0 i) := by
  have := NV_c h hi (Or.inl k1) hf
  rw [NV_1 k1, NV_1 k1] at this
  exact this
theorem BSL_u {b c : Nat} {E : Nat → Nat → Prop} {M : Nat → Nat} {S0 Y : SS} (h : CE b c E M S0 Y) {f f' g g' : Nat → Int32} (s : BSL c S0 f g) (s' : BSL c S0 f' g') (hf : ∀ i, i < c → f i = f' i) : ∀ i, i < c → g i = g' i := by
  have hc := h.1.1
  obtain ⟨od, _, pl, _⟩ := h.2.2.2.2.2.1
  have go : ∀ k, k < c → ∀ i, i < c → gA S0 12 k = nI i → g i = g' i := by
    intro k
    induction k using Nat.strongRecOn with
    | ind k ih =>
      intro hk i hi e
      by_cases q : gA S0 4 i = 1
      · rw [(s i hi).1 q, (s' i hi).1 q]
        refine bvl_E h hi q (fun y hy ey => ?_)
        obtain ⟨k', k1, k2⟩ := OD_E od hc hk hi e y ey
        exact ih k' k1 (by omega) y hy k2
      · rw [(s i hi).2 q, (s' i hi).2 q]
        exact hf i hi
  intro i hi
  obtain ⟨k, k1, k2⟩ := pl i hi
  exact go k k1 i hi k2
theorem p_buses6 {b c : Nat} {E : Nat → Nat → Prop} {M : Nat → Nat} {S0 Y S4 : SS} (h : CE b c E M S0 Y) (hn : ∀ j, j < c → ∃ n, n ≤ 20 ∧ gA S4 6 j = nI n) : Pc (f_X4_changeBuses S4 S0) (fun w => EF6 c S4 w.2 ∧ BSL c S0 (gA S4 2) (gA w.2 2) ∧ w.1 = nI (cn (fun j => gA w.2 2 j ≠ gA S4 2 j) c)) := by
  obtain ⟨hc, hb, h0, _⟩ := h.1
  obtain ⟨od, _, pl, _⟩ := h.2.2.2.2.2.1
  refine Pc_I (fun v : Int32 × Int32 × SS => ∃ k, v.2.1 = nI k ∧ k ≤ c ∧ EF6 c S4 v.2.2 ∧ v.1 = nI (cn (fun j => gA v.2.2 2 j ≠ gA S4 2 j) c) ∧ (∀ i, i < c → gA S0 4 i ≠ 1 → gA v.2.2 2 i = gA S4 2 i) ∧ (∀ i, i < c → ¬ PLC k (gA S0 12) i → gA v.2.2 2 i = gA S4 2 i) ∧ ∀ i, i < c → PLC k (gA S0 12) i → gA S0 4 i = 1 → gA v.2.2 2 i = bvl S0 (gA v.2.2 2) i (sz S0 i)) (fun v hv => ?_) _ ⟨0, rfl, Nat.zero_le _, EF6_r c S4, by rw [cn_0 (fun j _ q => q rfl)]; rfl, fun _ _ _ => rfl, fun _ _ _ => rfl, fun i _ ⟨k, q, _⟩ => absurd q (Nat.not_lt_zero _)⟩
  obtain ⟨w, v, T⟩ := v
  obtain ⟨k, ev, hk, ef, ew, h1, h2, h3⟩ : ∃ k, v = nI k ∧ k ≤ c ∧ EF6 c S4 T ∧ w = nI (cn (fun j => gA T 2 j ≠ gA S4 2 j) c) ∧ (∀ i, i < c → gA S0 4 i ≠ 1 → gA T 2 i = gA S4 2 i) ∧ (∀ i, i < c → ¬ PLC k (gA S0 12) i → gA T 2 i = gA S4 2 i) ∧ ∀ i, i < c → PLC k (gA S0 12) i → gA S0 4 i = 1 → gA T 2 i = bvl S0 (gA T 2) i (sz S0 i) := hv
  subst ev
  subst ew
  refine Pc_c (fun q => Pc_s ⟨ef, fun i hi => ⟨fun u => h3 i hi ?_ u, fun u => h1 i hi u⟩, rfl⟩) (fun q => Pc_G (fun _ => Pc_l (Pc_G (fun _ => ?_))))
  · rw [h0, nI_leI (by omega) (by omega)] at q
    have : k = c := by omega
    rw [this]
    exact pl i hi
  · rw [h0, nI_leI (by omega) (by omega)] at q
    obtain ⟨i, hi, ei, eE⟩ := od.1 k (by omega)
    rw [nI_clamp (by omega), ei, nI_clamp (by omega)]
    have npl : ¬ PLC k (gA S0 12) i := fun ⟨k', k1, k2⟩ => by
      rw [← ei] at k2
      have := od.2 k' k (by omega) (by omega) k2
      omega
    have pls : ∀ j, j < c → (PLC (k + 1) (gA S0 12) j ↔ PLC k (gA S0 12) j ∨ j = i) := fun j hj => by
      constructor
      · rintro ⟨k', k1, k2⟩
        rcases Nat.lt_or_ge k' k with t | t
        · exact Or.inl ⟨k', t, k2⟩
        · have : k' = k := by omega
          rw [this, ei] at k2
          exact Or.inr ((nI_eq (by omega) (by omega)).mp k2).symm
      · rintro (⟨k', k1, k2⟩ | e)
        · exact ⟨k', by omega, k2⟩
        · exact ⟨k, by omega, by rw [e]; exact ei⟩
    have ti : gA T 2 i = gA S4 2 i := h2 i hi npl
    -- those placed do not hang on it
    have noE : ∀ j, j < c → (PLC k (gA S0 12) j ∨ j = i) → ∀ y, E j y → y ≠ i := fun j hj pj y ey e => by
      rcases pj with ⟨k', k1, k2⟩ | pj
      · obtain ⟨k2', a1, a2⟩ := OD_E od hc (by omega) hj k2 y ey
        rw [e, ← ei] at a2
        have := od.2 k2' k (by omega) (by omega) a2
        omega
      · rw [pj] at ey
        obtain ⟨k2', a1, a2⟩ := eE y ey
        rw [e, ← ei] at a2
        have := od.2 k2' k (by omega) (by omega) a2
        omega
    refine Pc_c (fun k1 => Pc_B (p_bus6 h hi k1 (gA T 2)) (fun r hr => Pc_B (p_change6 (by omega) r) (fun x hx => ?_))) (fun k1 => Pc_l (Pc_s ⟨k + 1, nI_1 k, by omega, ef, rfl, h1, fun j hj u => h2 j hj (fun t => u ((pls j hj).mpr (Or.inl t))), fun j hj u kj => ?_⟩))
    · obtain ⟨x1, U⟩ := x
      rcases hx with ⟨e1, e2⟩ | ⟨e1, e2, ch⟩
      · cases e2
        refine Pc_l (Pc_l (Pc_s ⟨k + 1, nI_1 k, by omega, ef, nI_add _ 0, h1, fun j hj u => h2 j hj (fun t => u ((pls j hj).mpr (Or.inl t))), fun j hj u kj => ?_⟩))
        rcases (pls j hj).mp u with u | u
        · exact h3 j hj u kj
        · show gA T 2 j = bvl S0 (gA T 2) j (sz S0 j)
          rw [u, e1]
          exact hr
      · have e2 : x1 = 1 := e2
        have ch : CH6 T U i r := ch
        have c2 := ch.2.1.1
        have rv : r ≠ gA S4 2 i := fun t => e1 (by rw [ti]; exact t.symm)
        subst e2
        refine Pc_l (Pc_l (Pc_s ⟨k + 1, nI_1 k, by omega, EF6_s hc hi hn ef ti rv ch, ?_, fun j hj u => ?_, fun j hj u => ?_, fun j hj u kj => ?_⟩))
        · show nI _ + 1 = nI (cn (fun j => gA U 2 j ≠ gA S4 2 j) c)
          rw [nI_1, c2, cn_ne hi ti rv]
        · show gA U 2 j = _
          rw [c2, pk_un (fun e => u (by rw [e]; exact k1))]
          exact h1 j hj u
        · show gA U 2 j = _
          rw [c2, pk_un (fun e => u ((pls j hj).mpr (Or.inr e)))]
          exact h2 j hj (fun t => u ((pls j hj).mpr (Or.inl t)))
        · show gA U 2 j = bvl S0 (gA U 2) j (sz S0 j)
          have u := (pls j hj).mp u
          have cg : bvl S0 (gA U 2) j (sz S0 j) = bvl S0 (gA T 2) j (sz S0 j) := bvl_E h hj kj (fun y hy ey => by rw [c2, pk_un (noE j hj u y ey)])
          rw [cg]
          by_cases e : j = i
          · rw [e, c2, pk_us]
            exact hr
          · rw [c2, pk_un e]
            rcases u with u | u
            · exact h3 j hj u kj
            · exact absurd u e
    · rcases (pls j hj).mp u with u | u
      · exact h3 j hj u kj
      · rw [u] at kj
        exact absurd kj k1
