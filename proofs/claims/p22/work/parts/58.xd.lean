/-! the reference's BUSES -/
theorem e_hangs7 {b c : Nat} {E : Nat → Nat → Prop} {M : Nat → Nat} {S0 Y : SS} (h : CE b c E M S0 Y) {i : Nat} (hi : i < c) (g : GBn S0 i) : f_X7_hangs Y (((60 : Int32) * (gI Y 30)) + nI i) = some (nI (HN M S0 i)) := by
  obtain ⟨hc, hb, _, _, h30⟩ := h.1
  obtain ⟨⟨_, a12, _⟩, _, _, _, m6, a14, _⟩ := h.2.1 i hi
  unfold f_X7_hangs
  rw [h30, i60 hb, zG_pos (ti_in (by rw [nI_toInt (by omega)]; omega) (by rw [nI_toInt (by omega)]; omega)), nI_clamp (by omega), a12, a14]
  unfold HN
  rcases g with k | k
  · rw [if_neg (by rw [k]; decide), if_pos k, if_pos k, show (2 : Int32) = nI 2 from rfl, pk_mul]
  · rw [if_pos k, if_neg (by rw [k]; decide)]
theorem p_hasChanged {b c : Nat} {E : Nat → Nat → Prop} {M : Nat → Nat} {S0 Y : SS} (h : CE b c E M S0 Y) {i : Nat} (hi : i < c) (g : GBn S0 i) : Pc (f_X7_hasChanged Y (nI i)) (fun r => r ≠ 0 ↔ ∃ y, E i y ∧ gA Y 45 y ≠ 0) := by
  obtain ⟨hc, hb, _, _, h30⟩ := h.1
  have m12 : HN M S0 i ≤ 12 := by
    have := (h.2.1 i hi).2.2.2.2.1
    unfold HN
    split <;> omega
  refine Pc_I (fun v : Int32 × Int32 => ∃ j, v.2 = nI j ∧ j ≤ HN M S0 i ∧ (v.1 = 0 ∨ v.1 = 1) ∧ (v.1 ≠ 0 ↔ ∃ j', j' < j ∧ gA Y 45 (pn S0 i j') ≠ 0)) (fun v hv => ?_) _ ⟨0, rfl, Nat.zero_le _, Or.inl rfl, fun q => absurd rfl q, fun ⟨j', q, _⟩ => absurd q (Nat.not_lt_zero _)⟩
  obtain ⟨w, v⟩ := v
  obtain ⟨j, ev, hj, wz, hw⟩ : ∃ j, v = nI j ∧ j ≤ HN M S0 i ∧ (w = 0 ∨ w = 1) ∧ (w ≠ 0 ↔ ∃ j', j' < j ∧ gA Y 45 (pn S0 i j') ≠ 0) := hv
  subst ev
  refine Pc_e (e_hangs7 h hi g) (Pc_c (fun q => Pc_G (fun _ => Pc_s ?_)) (fun q => ?_))
  · rw [nI_leI (by omega) (by omega)] at q
    have e : j = HN M S0 i := by omega
    show w ≠ 0 ↔ _
    rw [hw]
    constructor
    · rintro ⟨j', j1, j2⟩
      exact ⟨_, (CE_Ep h hi g (by omega)).2, j2⟩
    · rintro ⟨y, y1, y2⟩
      obtain ⟨yc, _, j', j1, j2⟩ := (h.2.2.2.2.1.1 i y hi).mp y1
      refine ⟨j', by omega, ?_⟩
      have : pn S0 i j' = y := by
        unfold pn
        rw [j2, nI_clamp (by omega)]
      rw [this]
      exact y2
  · rw [nI_leI (by omega) (by omega)] at q
    refine Pc_c (fun z => ?_) (fun z => Pc_l (Pc_s ⟨j + 1, nI_1 j, by omega, Or.inr rfl, fun _ => ?_, fun _ => ne10⟩))
    · obtain ⟨a0, _, b0⟩ := CE_pn h hi (j := j) (by omega)
      have no : ¬ ∃ j', j' < j ∧ gA Y 45 (pn S0 i j') ≠ 0 := fun u => hw.mpr u z
      refine Pc_e ((e_in (j := j) h30 hb (by omega) (by omega)).trans (congrArg some b0)) (Pc_G (fun _ => ?_))
      rw [nI_clamp (by omega)]
      refine Pc_c (fun y => Pc_l (Pc_s ⟨j + 1, nI_1 j, by omega, Or.inl rfl, fun u => absurd rfl u, fun ⟨j', j1, j2⟩ => ?_⟩)) (fun y => Pc_l (Pc_s ⟨j + 1, nI_1 j, by omega, Or.inr rfl, fun _ => ⟨j, by omega, y⟩, fun _ => ne10⟩))
      rcases Nat.lt_or_ge j' j with t | t
      · exact absurd ⟨j', t, j2⟩ no
      · have : j' = j := by omega
        rw [this] at j2
        exact absurd y j2
    · obtain ⟨j', j1, j2⟩ := hw.mp z
      exact ⟨j', by omega, j2⟩
/-- a BUS whose parts have not changed is as it should be -/
def BCO (c : Nat) (E : Nat → Nat → Prop) (S0 S : SS) : Prop := ∀ i, i < c → gA S0 4 i = 1 → (∀ y, E i y → gA S 45 y = 0) → gA S 40 i = bvl S0 (gA S 40) i (sz S0 i)
theorem EF7_CE {b c : Nat} {E : Nat → Nat → Prop} {M : Nat → Nat} {S0 S T : SS} (h : CE b c E M S0 S) (ef : EF7 c S T) : CE b c E M S0 T := CE_f h ⟨ef.1.1 29, ef.1.1 30⟩ (fun k hk => ef.1.2.1 k (by omega) (by omega) (by omega) (by omega)) (ef.1.2.2 11)
/-- NODE i has been gone through -/
def DNE (S0 : SS) (l k i : Nat) : Prop := lvl S0 i < l ∨ (lvl S0 i = l ∧ i < k)
def BI7 (c : Nat) (S0 S : SS) (D : Nat → Prop) (w : Int32) (T : SS) : Prop := EF7 c S T ∧ w = nI (cn (fun j => gA T 40 j ≠ gA S 40 j) c) ∧ (∀ i, i < c → VQ (gA T 40 i)) ∧ (∀ i, i < c → gA S0 4 i ≠ 1 → gA T 40 i = gA S 40 i) ∧ (∀ i, i < c → ¬ D i → gA T 40 i = gA S 40 i) ∧ ∀ i, i < c → D i → gA S0 4 i = 1 → gA T 40 i = bvl S0 (gA T 40) i (sz S0 i)
theorem BI7_D {c : Nat} {S0 S T : SS} {D D' : Nat → Prop} {w : Int32} (h : BI7 c S0 S D w T) (hd : ∀ i, i < c → gA S0 4 i = 1 → (D i ↔ D' i)) : BI7 c S0 S D' w T := by
  obtain ⟨a, b, v, c1, d, e⟩ := h
  refine ⟨a, b, v, c1, fun i hi u => ?_, fun i hi u k => e i hi ((hd i hi k).mpr u) k⟩
  by_cases k : gA S0 4 i = 1
  · exact d i hi (fun t => u ((hd i hi k).mp t))
  · exact c1 i hi k
theorem p_buses7 {b c Bd : Nat} {E : Nat → Nat → Prop} {M : Nat → Nat} {S0 S7 : SS} (h : CE b c E M S0 S7) (hB : Bd ≤ 2000000000) (hn : ∀ j, j < c → ∃ n, n ≤ Bd ∧ gA S7 44 j = nI n) (vq : ∀ i, i < c → VQ (gA S7 40 i)) (bc : BCO c E S0 S7) : Pc (zI b_X7_looks_4 zF ((0 : Int32), (0 : Int32), S7)) (fun w => EF7 c S7 w.2 ∧ BSL c S0 (gA S7 40) (gA w.2 40) ∧ (∀ i, i < c → VQ (gA w.2 40 i)) ∧ w.1 = nI (cn (fun j => gA w.2 40 j ≠ gA S7 40 j) c)) := by
  obtain ⟨hc, hb, _, h29, h30⟩ := h.1
  refine Pc_I (fun v : Int32 × Int32 × SS => ∃ l, v.2.1 = nI l ∧ l ≤ c + 1 ∧ BI7 c S0 S7 (fun i => lvl S0 i < l) v.1 v.2.2) (fun v hv => ?_) _ ⟨0, rfl, Nat.zero_le _, EF7_r c S7, by rw [cn_0 (fun j _ q => q rfl)]; rfl, vq, fun _ _ _ => rfl, fun _ _ _ => rfl, fun i _ q => absurd q (Nat.not_lt_zero _)⟩
  obtain ⟨w, v, T⟩ := v
  obtain ⟨l, ev, hl, bi⟩ : ∃ l, v = nI l ∧ l ≤ c + 1 ∧ BI7 c S0 S7 (fun i => lvl S0 i < l) w T := hv
  subst ev
  have t29 : gI T 29 = nI c := by rw [bi.1.1.1]; exact h29
  refine Pc_c (fun u => Pc_s ?_) (fun u => ?_)
  · rw [t29, nI_ltI (by omega) (by omega)] at u
    obtain ⟨a, b', v, c1, d, e⟩ := bi
    exact ⟨a, fun i hi => ⟨fun k => e i hi (by have := (CE_lvl h hi).2.1; show lvl S0 i < l; omega) k, fun k => c1 i hi k⟩, v, b'⟩
  · rw [t29, nI_ltI (by omega) (by omega)] at u
    refine Pc_B (P := fun x : Int32 × SS => BI7 c S0 S7 (fun i => lvl S0 i < l + 1) x.1 x.2) ?_ (fun x hx => ?_)
    · refine Pc_I (fun v : Int32 × Int32 × SS => ∃ k, v.2.1 = nI k ∧ k ≤ c ∧ BI7 c S0 S7 (DNE S0 l k) v.1 v.2.2) (fun v hv => ?_) _ ⟨0, rfl, Nat.zero_le _, BI7_D bi (fun i _ _ => by unfold DNE; omega)⟩
      obtain ⟨w, v, T⟩ := v
      obtain ⟨k, ev, hk, bi⟩ : ∃ k, v = nI k ∧ k ≤ c ∧ BI7 c S0 S7 (DNE S0 l k) w T := hv
      subst ev
      obtain ⟨ef, ew, tv, h1, h2, h3⟩ := id bi
      have hT := EF7_CE h ef
      obtain ⟨_, _, _, t29, t30⟩ := hT.1
      refine Pc_c (fun u => Pc_s (BI7_D bi (fun i hi _ => ?_))) (fun u => Pc_G (fun _ => ?_))
      · rw [t29, nI_leI (by omega) (by omega)] at u
        unfold DNE
        omega
      · rw [t29, nI_leI (by omega) (by omega)] at u
        have kc : k < c := by omega
        obtain ⟨lk, _, ll⟩ := CE_lvl hT kc
        rw [t30, i60 hb, nI_clamp (by omega), lk]
        have skip : (¬ (gA S0 4 k = 1 ∧ lvl S0 k = l)) → Pc (zL (nI k + 1) (fun v125 => some (Sum.inl (w, v125, T)))) (PcI (fun v : Int32 × Int32 × SS => ∃ k, v.2.1 = nI k ∧ k ≤ c ∧ BI7 c S0 S7 (DNE S0 l k) v.1 v.2.2) (fun x : Int32 × SS => BI7 c S0 S7 (fun i => lvl S0 i < l + 1) x.1 x.2)) := fun no => by
          refine Pc_l (Pc_s ⟨k + 1, nI_1 k, by omega, BI7_D bi (fun i hi ki => ?_)⟩)
          unfold DNE
          constructor
          · omega
          · rintro (t | ⟨t1, t2⟩)
            · exact Or.inl t
            · rcases Nat.lt_or_ge i k with r | r
              · exact Or.inr ⟨t1, r⟩
              · have : i = k := by omega
                rw [this] at ki t1
                exact absurd ⟨ki, t1⟩ no
        refine Pc_c (fun s => ?_) (fun s => skip (fun x => s (by rw [x.2])))
        have es : lvl S0 k = l := (nI_eq (by have := (CE_lvl hT kc).2.1; omega) (by omega)).mp s
        refine Pc_e (e_kind7 hT kc) (Pc_c (fun k1 => ?_) (fun k1 => skip (fun x => k1 x.1)))
        have nd : ¬ DNE S0 l k k := by unfold DNE; omega
        have tk0 : gA T 40 k = gA S7 40 k := h2 k kc nd
        refine Pc_B (p_bus7 hT kc k1 40 (fun y hy _ => tv y hy)) (fun r hr => Pc_G (fun _ => ?_))
        rw [nI_clamp (by omega)]
        have dne : ∀ i, i < c → (DNE S0 l (k + 1) i ↔ DNE S0 l k i ∨ i = k) := fun i hi => by
          unfold DNE
          constructor
          · rintro (t | ⟨t1, t2⟩)
            · exact Or.inl (Or.inl t)
            · rcases Nat.lt_or_ge i k with r | r
              · exact Or.inl (Or.inr ⟨t1, r⟩)
              · exact Or.inr (by omega)
          · rintro ((t | ⟨t1, t2⟩) | t)
            · exact Or.inl t
            · exact Or.inr ⟨t1, by omega⟩
            · exact Or.inr ⟨by rw [t]; exact es, by omega⟩
        have same : r = gA T 40 k → BI7 c S0 S7 (DNE S0 l (k + 1)) w T := fun e => by
          refine ⟨ef, ew, tv, h1, fun i hi u => h2 i hi (fun t => u ((dne i hi).mpr (Or.inl t))), fun i hi u ki => ?_⟩
          rcases (dne i hi).mp u with u | u
          · exact h3 i hi u ki
          · rw [u, ← e]
            exact hr
        refine Pc_c (fun e => Pc_l (Pc_s ⟨k + 1, nI_1 k, by omega, same e⟩)) (fun e => ?_)
        refine Pc_B (p_hasChanged hT kc (Or.inl k1)) (fun q hq => Pc_c (fun z => ?_) (fun z => ?_))
        · -- none of its parts has changed: then it is as it should be
          exfalso
          have no : ∀ y, E k y → gA T 45 y = 0 := fun y ey => Classical.byContradiction (fun t => hq.mpr ⟨y, ey, t⟩ z)
          have yc : ∀ y, E k y → y < c := fun y ey => ((h.2.2.2.2.1.1 k y kc).mp ey).1
          have nos : ∀ y, E k y → gA S7 45 y = 0 ∧ gA T 40 y = gA S7 40 y := fun y ey => by
            have t := ef.2.2 y (yc y ey)
            refine ⟨Classical.byContradiction (fun s => t.mpr (Or.inl s) (no y ey)), Classical.byContradiction (fun s => t.mpr (Or.inr s) (no y ey))⟩
          have e1 := bc k kc k1 (fun y ey => (nos y ey).1)
          have e2 : bvl S0 (gA T 40) k (sz S0 k) = bvl S0 (gA S7 40) k (sz S0 k) := bvl_E h kc k1 (fun y _ ey => (nos y ey).2)
          exact e (by rw [hr, e2, ← e1, tk0])
        · refine Pc_B (p_change7 (S := T) (by omega) r) (fun U hU => Pc_l (Pc_l (Pc_s ⟨k + 1, nI_1 k, by omega, ?_⟩)))
          have c40 := hU.2.1.1
          have rv : r ≠ gA S7 40 k := fun t => e (by rw [tk0]; exact t)
          have vr : VQ r := by
            rw [hr]
            exact VQ_bvl (fun j hj => tv _ (CE_Ep hT kc (Or.inl k1) (by rw [HN_sz hT kc, if_pos k1]; omega)).1)
          have noE : ∀ j, j < c → lvl S0 j ≤ l → ∀ y, E j y → y ≠ k := fun j hj lj y ey e => by
            have := (CE_lvl h hj).2.2 y ey
            rw [e, es] at this
            omega
          show BI7 c S0 S7 (DNE S0 l (k + 1)) (w + 1) U
          refine ⟨EF7_s hc hB kc hn ef tk0 rv hU, ?_, fun i hi => ?_, fun i hi u => ?_, fun i hi u => ?_, fun i hi u ki => ?_⟩
          · rw [ew, nI_1, c40, cn_ne kc tk0 rv]
          · rw [c40]
            by_cases e : i = k
            · rw [e, pk_us]
              exact vr
            · rw [pk_un e]
              exact tv i hi
          · rw [c40, pk_un (fun e => u (by rw [e]; exact k1))]
            exact h1 i hi u
          · rw [c40, pk_un (fun e => u ((dne i hi).mpr (Or.inr e)))]
            exact h2 i hi (fun t => u ((dne i hi).mpr (Or.inl t)))
          · have u := (dne i hi).mp u
            have li : lvl S0 i ≤ l := by
              rcases u with u | u
              · unfold DNE at u
                omega
              · rw [u]
                omega
            have cg : bvl S0 (gA U 40) i (sz S0 i) = bvl S0 (gA T 40) i (sz S0 i) := bvl_E h hi ki (fun y _ ey => by rw [c40, pk_un (noE i hi li y ey)])
            rw [cg, c40]
            by_cases e : i = k
            · rw [e, pk_us]
              exact hr
            · rw [pk_un e]
              rcases u with u | u
              · exact h3 i hi u ki
              · exact absurd u e
    · obtain ⟨x1, x2⟩ := x
      exact Pc_l (Pc_s ⟨l + 1, nI_1 l, by omega, hx⟩)
