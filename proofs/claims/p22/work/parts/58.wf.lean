/-! both settle alike -/
def GBn (S0 : SS) (i : Nat) : Prop := gA S0 4 i = 1 ∨ gA S0 4 i = 2
noncomputable def NV (S0 : SS) (f : Nat → Int32) (i : Nat) : Int32 := if gA S0 4 i = 2 then gval S0 f i else if gA S0 4 i = 1 then bvl S0 f i (sz S0 i) else f i
theorem NV_2 {S0 : SS} {f : Nat → Int32} {i : Nat} (k : gA S0 4 i = 2) : NV S0 f i = gval S0 f i := if_pos k
theorem NV_1 {S0 : SS} {f : Nat → Int32} {i : Nat} (k : gA S0 4 i = 1) : NV S0 f i = bvl S0 f i (sz S0 i) := by
  unfold NV
  rw [if_neg (by rw [k]; decide), if_pos k]
theorem CE_Ep {b c : Nat} {E : Nat → Nat → Prop} {M : Nat → Nat} {S0 Y : SS} (h : CE b c E M S0 Y) {i j : Nat} (hi : i < c) (g : GBn S0 i) (hj : j < HN M S0 i) : pn S0 i j < c ∧ E i (pn S0 i j) := by
  obtain ⟨a, e, _⟩ := CE_pn h hi hj
  refine ⟨a, (h.2.2.2.2.1.1 i _ hi).mpr ⟨a, ?_, j, hj, e⟩⟩
  rcases g with g | g <;> rw [g] <;> decide
theorem bvl_c {S0 : SS} {f f' : Nat → Int32} {i : Nat} : ∀ {m : Nat}, (∀ j, j < 2 * m → f (pn S0 i j) = f' (pn S0 i j)) → bvl S0 f i m = bvl S0 f' i m := by
  intro m
  induction m with
  | zero => intro _; rfl
  | succ m ih =>
    intro h
    show bst (bvl S0 f i m) _ = bst (bvl S0 f' i m) _
    rw [ih (fun j hj => h j (by omega)), h (2 * m + 1) (by omega), h (2 * m) (by omega)]
theorem zc_c {S0 : SS} {f f' : Nat → Int32} {v : Int32} {i m : Nat} (h : ∀ j, j < m → f (pn S0 i j) = f' (pn S0 i j)) : zc S0 f v i m = zc S0 f' v i m := cn_c (fun j hj => by rw [h j hj])
theorem mux3 {b c : Nat} {E : Nat → Nat → Prop} {M : Nat → Nat} {S0 Y : SS} (h : CE b c E M S0 Y) {i : Nat} (hi : i < c) (k2 : gA S0 4 i = 2) (q8 : gA S0 5 i = 8) : 3 ≤ sz S0 i := by
  obtain ⟨_, _, kg, _⟩ := h.2.1 i hi
  obtain ⟨_, _, g3, _⟩ := kg k2
  rw [← CE_sz h hi, q8] at g3
  have : (sl_f (8 : Int32).toNatClampNeg).toInt = 3 := by decide
  omega
theorem NV_c {b c : Nat} {E : Nat → Nat → Prop} {M : Nat → Nat} {S0 Y : SS} (h : CE b c E M S0 Y) {i : Nat} (hi : i < c) (g : GBn S0 i) {f f' : Nat → Int32} (hf : ∀ y, y < c → E i y → f y = f' y) : NV S0 f i = NV S0 f' i := by
  have hn := HN_sz h hi
  have pe : ∀ j, j < HN M S0 i → f (pn S0 i j) = f' (pn S0 i j) := fun j hj => by
    obtain ⟨a, e⟩ := CE_Ep h hi g hj
    exact hf _ a e
  rcases g with k | k
  · rw [if_pos k] at hn
    rw [NV_1 k, NV_1 k]
    exact bvl_c (fun j hj => pe j (by omega))
  · rw [if_neg (by rw [k]; decide)] at hn
    rw [NV_2 k, NV_2 k]
    unfold gval
    by_cases q8 : gA S0 5 i = 8
    · have m3 := mux3 h hi k q8
      rw [if_pos q8, if_pos q8, pe 0 (by omega), pe 1 (by omega), pe 2 (by omega)]
    · rw [if_neg q8, if_neg q8, zc_c (f' := f') (fun j hj => pe j (by omega)), zc_c (f' := f') (fun j hj => pe j (by omega))]
theorem NV_q {b c : Nat} {E : Nat → Nat → Prop} {M : Nat → Nat} {S0 Y : SS} (h : CE b c E M S0 Y) {i : Nat} (hi : i < c) (g : GBn S0 i) {f : Nat → Int32} (vr : ∀ y, y < c → E i y → VQ (f y)) : VQ (NV S0 f i) := by
  have hn := HN_sz h hi
  have pe : ∀ j, j < HN M S0 i → VQ (f (pn S0 i j)) := fun j hj => by
    obtain ⟨a, e⟩ := CE_Ep h hi g hj
    exact vr _ a e
  rcases g with k | k
  · rw [if_pos k] at hn
    rw [NV_1 k]
    exact VQ_bvl (fun j hj => pe (2 * j) (by omega))
  · rw [if_neg (by rw [k]; decide)] at hn
    rw [NV_2 k]
    by_cases q8 : gA S0 5 i = 8
    · have m3 := mux3 h hi k q8
      unfold gval mxv
      rw [if_pos q8]
      have a := VQ_tk (pe 1 (by omega))
      have b := VQ_tk (pe 2 (by omega))
      split
      · exact a
      · split
        · exact b
        · split
          · exact a
          · exact Or.inr (Or.inr (Or.inl rfl))
    · exact (gt_one h hi k q8 f).2.2
/-- row g is what follows from row f's sources -/
def SOL (c : Nat) (S0 : SS) (f g : Nat → Int32) : Prop := ∀ i, i < c → (GBn S0 i → g i = NV S0 g i) ∧ (¬ GBn S0 i → g i = f i)
theorem SOL_u {b c : Nat} {E : Nat → Nat → Prop} {M : Nat → Nat} {S0 Y : SS} (h : CE b c E M S0 Y) {f f' g g' : Nat → Int32} (s : SOL c S0 f g) (s' : SOL c S0 f' g') (hf : ∀ i, i < c → ¬ GBn S0 i → f i = f' i) : ∀ i, i < c → g i = g' i := by
  have hc := h.1.1
  obtain ⟨od, _, pl, _⟩ := h.2.2.2.2.2.1
  have go : ∀ k, k < c → ∀ i, i < c → gA S0 12 k = nI i → g i = g' i := by
    intro k
    induction k using Nat.strongRecOn with
    | ind k ih =>
      intro hk i hi e
      by_cases q : GBn S0 i
      · rw [(s i hi).1 q, (s' i hi).1 q]
        refine NV_c h hi q (fun y hy ey => ?_)
        obtain ⟨k', k1, k2⟩ := OD_E od hc hk hi e y ey
        exact ih k' k1 (by omega) y hy k2
      · rw [(s i hi).2 q, (s' i hi).2 q]
        exact hf i hi q
  intro i hi
  obtain ⟨k, k1, k2⟩ := pl i hi
  exact go k k1 i hi k2
theorem SOL_q {b c : Nat} {E : Nat → Nat → Prop} {M : Nat → Nat} {S0 Y : SS} (h : CE b c E M S0 Y) {f g : Nat → Int32} (s : SOL c S0 f g) (vf : ∀ i, i < c → ¬ GBn S0 i → VQ (f i)) : ∀ i, i < c → VQ (g i) := by
  have hc := h.1.1
  obtain ⟨od, _, pl, _⟩ := h.2.2.2.2.2.1
  have go : ∀ k, k < c → ∀ i, i < c → gA S0 12 k = nI i → VQ (g i) := by
    intro k
    induction k using Nat.strongRecOn with
    | ind k ih =>
      intro hk i hi e
      by_cases q : GBn S0 i
      · rw [(s i hi).1 q]
        refine NV_q h hi q (fun y hy ey => ?_)
        obtain ⟨k', k1, k2⟩ := OD_E od hc hk hi e y ey
        exact ih k' k1 (by omega) y hy k2
      · rw [(s i hi).2 q]
        exact vf i hi q
  intro i hi
  obtain ⟨k, k1, k2⟩ := pl i hi
  exact go k k1 i hi k2
theorem p_settle6 {b c : Nat} {E : Nat → Nat → Prop} {M : Nat → Nat} {S0 Y : SS} (h : CE b c E M S0 Y) (f : Nat → Int32) : Pc (f_X2_settle S0 f) (SOL c S0 f) := by
  obtain ⟨hc, hb, h0, _⟩ := h.1
  obtain ⟨od, _, pl, _⟩ := h.2.2.2.2.2.1
  refine Pc_I (fun v : Int32 × (Nat → Int32) => ∃ k, v.1 = nI k ∧ k ≤ c ∧ (∀ i, i < c → ¬ GBn S0 i → v.2 i = f i) ∧ ∀ k' i, k' < k → i < c → gA S0 12 k' = nI i → GBn S0 i → v.2 i = NV S0 v.2 i) (fun v hv => ?_) _ ⟨0, rfl, Nat.zero_le _, fun _ _ _ => rfl, fun k' i q => absurd q (Nat.not_lt_zero _)⟩
  obtain ⟨v, g⟩ := v
  obtain ⟨k, ev, hk, h1, h2⟩ : ∃ k, v = nI k ∧ k ≤ c ∧ (∀ i, i < c → ¬ GBn S0 i → g i = f i) ∧ ∀ k' i, k' < k → i < c → gA S0 12 k' = nI i → GBn S0 i → g i = NV S0 g i := hv
  subst ev
  refine Pc_c (fun q => Pc_s (fun i hi => ?_)) (fun q => Pc_G (fun _ => ?_))
  · rw [h0, nI_leI (by omega) (by omega)] at q
    obtain ⟨k', k1, k2⟩ := pl i hi
    exact ⟨fun u => h2 k' i (by omega) hi k2 u, fun u => h1 i hi u⟩
  · rw [h0, nI_leI (by omega) (by omega)] at q
    obtain ⟨i, hi, ei, eE⟩ := od.1 k (by omega)
    refine Pc_l (Pc_G (fun _ => ?_))
    rw [nI_clamp (by omega), ei, nI_clamp (by omega)]
    have stp : ∀ r, GBn S0 i → r = NV S0 g i → (∀ i', i' < c → ¬ GBn S0 i' → upd g i r i' = f i') ∧ ∀ k' i', k' < k + 1 → i' < c → gA S0 12 k' = nI i' → GBn S0 i' → upd g i r i' = NV S0 (upd g i r) i' := fun r gi er => by
      have ne : ∀ y, y < c → (∃ k', k' < k ∧ gA S0 12 k' = nI y) → y ≠ i := fun y hy ⟨k', k1, k2⟩ e => by
        rw [e, ← ei] at k2
        have := od.2 k' k (by omega) (by omega) k2
        omega
      refine ⟨fun i' hi' u => ?_, fun k' i' hk' hi' e u => ?_⟩
      · rw [pk_un (fun e => u (by rw [e]; exact gi))]
        exact h1 i' hi' u
      · rcases Nat.lt_or_ge k' k with t | t
        · rw [pk_un (ne i' hi' ⟨k', t, e⟩), h2 k' i' t hi' e u]
          refine NV_c h hi' u (fun y hy ey => ?_)
          obtain ⟨k2, a1, a2⟩ := OD_E od hc (by omega) hi' e y ey
          rw [pk_un (ne y hy ⟨k2, by omega, a2⟩)]
        · have : k' = k := by omega
          rw [this, ei] at e
          have : i = i' := (nI_eq (by omega) (by omega)).mp e
          subst this
          rw [pk_us, er]
          refine NV_c h hi gi (fun y hy ey => ?_)
          rw [pk_un (ne y hy (eE y ey))]
    refine Pc_c (fun u => Pc_B (p_gate6 h hi u g) (fun r hr => Pc_l (Pc_l (Pc_s ⟨k + 1, nI_1 k, by omega, stp r (Or.inr u) (by rw [NV_2 u]; exact hr)⟩)))) (fun u => Pc_c (fun w => Pc_B (p_bus6 h hi w g) (fun r hr => Pc_l (Pc_l (Pc_s ⟨k + 1, nI_1 k, by omega, stp r (Or.inl w) (by rw [NV_1 w]; exact hr)⟩)))) (fun w => Pc_l (Pc_s ⟨k + 1, nI_1 k, by omega, h1, fun k' i' hk' hi' e t => ?_⟩)))
    rcases Nat.lt_or_ge k' k with s | s
    · exact h2 k' i' s hi' e t
    · have : k' = k := by omega
      rw [this, ei] at e
      have : i = i' := (nI_eq (by omega) (by omega)).mp e
      subst this
      rcases t with t | t
      · exact absurd t w
      · exact absurd t u
/-! the reference -/
theorem CE_f {b c : Nat} {E : Nat → Nat → Prop} {M : Nat → Nat} {S0 Y Z : SS} (h : CE b c E M S0 Y) (hI : gI Z 29 = gI Y 29 ∧ gI Z 30 = gI Y 30) (hA : ∀ k, k ≤ 19 → gA Z k = gA Y k) (hB : gB Z 11 = gB Y 11) : CE b c E M S0 Z := by
  obtain ⟨⟨a1, a2, a3, a4, a5⟩, c1, c2, c3, c4, ⟨o1, o2, o3, o4⟩, c5⟩ := h
  refine ⟨⟨a1, a2, a3, hI.1.trans a4, hI.2.trans a5⟩, fun i hi => ?_, fun i j hi hj => ?_, fun i j hi k hj => ?_, c4, ⟨o1, o2, o3, ?_⟩, c5⟩
  · rw [hB, hA 12 (by decide), hA 13 (by decide), hA 14 (by decide), hA 15 (by decide)]
    exact c1 i hi
  · rw [hA 16 (by decide)]
    exact c2 i j hi hj
  · rw [hA 19 (by decide)]
    exact c3 i j hi k hj
  · rw [hA 17 (by decide)]
    exact o4
theorem CE_sA {b c : Nat} {E : Nat → Nat → Prop} {M : Nat → Nat} {S0 Y : SS} (h : CE b c E M S0 Y) {q : Nat} (hq : 19 < q) (g : Nat → Int32) : CE b c E M S0 (sA Y q g) := CE_f h ⟨rfl, rfl⟩ (fun k hk => gA_ne (by omega)) rfl
theorem e_kind7 {b c : Nat} {E : Nat → Nat → Prop} {M : Nat → Nat} {S0 Y : SS} (h : CE b c E M S0 Y) {i : Nat} (hi : i < c) : f_X7_kind Y (nI i) = some (gA S0 4 i) := by
  obtain ⟨hc, hb, _, _, h30⟩ := h.1
  unfold f_X7_kind
  rw [h30, i60 hb, zG_pos (ti_in (by rw [nI_toInt (by omega)]; omega) (by rw [nI_toInt (by omega)]; omega)), nI_clamp (by omega), (h.2.1 i hi).1.2.1]
/-- NODE i's level -/
def lvl (S0 : SS) (i : Nat) : Nat := (gA S0 11 i).toNatClampNeg
theorem CE_lvl {b c : Nat} {E : Nat → Nat → Prop} {M : Nat → Nat} {S0 Y : SS} (h : CE b c E M S0 Y) {i : Nat} (hi : i < c) : gA Y 17 (60 * b + i) = nI (lvl S0 i) ∧ lvl S0 i < c ∧ ∀ y, E i y → lvl S0 y < lvl S0 i := by
  have hc := h.1.1
  obtain ⟨od, ol, pl, _⟩ := h.2.2.2.2.2.1
  have lv : ∀ {i m : Nat}, gA S0 11 i = nI m → m < 60 → lvl S0 i = m := fun e hm => by
    unfold lvl
    rw [e, nI_clamp (by omega)]
  obtain ⟨k, k1, k2⟩ := pl i hi
  obtain ⟨m, m1, m2, m3, _⟩ := ol k i k1 hi k2
  have em := lv m1 (by omega)
  rw [CE_lv' h hi, m1, em]
  refine ⟨rfl, by omega, fun y ey => ?_⟩
  obtain ⟨r, r1, r2⟩ := m3 y ey
  rw [lv r1 (by omega)]
  exact r2
theorem p_follow7 {b c : Nat} {E : Nat → Nat → Prop} {M : Nat → Nat} {S0 Y : SS} (h : CE b c E M S0 Y) {q : Nat} (hq : 19 < q) (vr : ∀ i, i < c → ¬ GBn S0 i → VQ (gA Y q i)) : Pc (f_X7_follow Y q) (fun Z => ∃ g, Z = sA Y q g ∧ SOL c S0 (gA Y q) g) := by
  obtain ⟨hc, hb, _, h29, h30⟩ := h.1
  have hy : ∀ i y, i < c → E i y → y < c := fun i y hi e => ((h.2.2.2.2.1.1 i y hi).mp e).1
  refine Pc_I (fun v : Int32 × SS => ∃ l g, v.1 = nI l ∧ l ≤ c + 1 ∧ v.2 = sA Y q g ∧ (∀ i, i < c → ¬ GBn S0 i → g i = gA Y q i) ∧ ∀ i, i < c → GBn S0 i → lvl S0 i < l → g i = NV S0 g i ∧ VQ (g i)) (fun v hv => ?_) _ ⟨0, gA Y q, rfl, Nat.zero_le _, sA_self.symm, fun _ _ _ => rfl, fun i _ _ t => absurd t (Nat.not_lt_zero _)⟩
  obtain ⟨v, Z⟩ := v
  obtain ⟨l, g, ev, hl, eZ, h1, h2⟩ : ∃ l g, v = nI l ∧ l ≤ c + 1 ∧ Z = sA Y q g ∧ (∀ i, i < c → ¬ GBn S0 i → g i = gA Y q i) ∧ ∀ i, i < c → GBn S0 i → lvl S0 i < l → g i = NV S0 g i ∧ VQ (g i) := hv
  subst ev
  have z29 : gI Z 29 = nI c := by rw [eZ]; exact h29
  refine Pc_c (fun u => Pc_s ⟨g, eZ, fun i hi => ⟨fun w => (h2 i hi w ?_).1, fun w => h1 i hi w⟩⟩) (fun u => ?_)
  · rw [z29, nI_ltI (by omega) (by omega)] at u
    have := (CE_lvl h hi).2.1
    omega
  · rw [z29, nI_ltI (by omega) (by omega)] at u
    refine Pc_B (P := fun U => ∃ g, U = sA Y q g ∧ (∀ i, i < c → ¬ GBn S0 i → g i = gA Y q i) ∧ ∀ i, i < c → GBn S0 i → lvl S0 i < l + 1 → g i = NV S0 g i ∧ VQ (g i)) ?_ (fun U ⟨g', e1, e2, e3⟩ => Pc_l (Pc_s ⟨l + 1, g', nI_1 l, by omega, e1, e2, e3⟩))
    refine Pc_I (fun v : Int32 × SS => ∃ k g, v.1 = nI k ∧ k ≤ c ∧ v.2 = sA Y q g ∧ (∀ i, i < c → ¬ GBn S0 i → g i = gA Y q i) ∧ ∀ i, i < c → GBn S0 i → (lvl S0 i < l ∨ (lvl S0 i = l ∧ i < k)) → g i = NV S0 g i ∧ VQ (g i)) (fun v hv => ?_) _ ⟨0, g, rfl, Nat.zero_le _, eZ, h1, fun i hi w t => h2 i hi w (by omega)⟩
    obtain ⟨v, W⟩ := v
    obtain ⟨k, g, ev, hk, eW, h1, h2⟩ : ∃ k g, v = nI k ∧ k ≤ c ∧ W = sA Y q g ∧ (∀ i, i < c → ¬ GBn S0 i → g i = gA Y q i) ∧ ∀ i, i < c → GBn S0 i → (lvl S0 i < l ∨ (lvl S0 i = l ∧ i < k)) → g i = NV S0 g i ∧ VQ (g i) := hv
    subst ev
    have hW : CE b c E M S0 W := by rw [eW]; exact CE_sA h hq g
    have wq : gA W q = g := by rw [eW, gA_eq]
    obtain ⟨_, _, _, w29, w30⟩ := hW.1
    refine Pc_c (fun t => Pc_s ⟨g, eW, h1, fun i hi w s => h2 i hi w ?_⟩) (fun t => Pc_G (fun _ => ?_))
    · rw [w29, nI_leI (by omega) (by omega)] at t
      omega
    · rw [w29, nI_leI (by omega) (by omega)] at t
      have kc : k < c := by omega
      obtain ⟨lk, _, ll⟩ := CE_lvl hW kc
      rw [w30, i60 hb, nI_clamp (by omega), lk]
      have skip : (¬ (GBn S0 k ∧ lvl S0 k = l)) → Pc (zL (nI k + 1) (fun v29 => some (Sum.inl (v29, W)))) (PcI (fun v : Int32 × SS => ∃ k g, v.1 = nI k ∧ k ≤ c ∧ v.2 = sA Y q g ∧ (∀ i, i < c → ¬ GBn S0 i → g i = gA Y q i) ∧ ∀ i, i < c → GBn S0 i → (lvl S0 i < l ∨ (lvl S0 i = l ∧ i < k)) → g i = NV S0 g i ∧ VQ (g i)) (fun U => ∃ g, U = sA Y q g ∧ (∀ i, i < c → ¬ GBn S0 i → g i = gA Y q i) ∧ ∀ i, i < c → GBn S0 i → lvl S0 i < l + 1 → g i = NV S0 g i ∧ VQ (g i))) := fun no => Pc_l (Pc_s ⟨k + 1, g, nI_1 k, by omega, eW, h1, fun i hi w s => h2 i hi w (by
        rcases s with s | ⟨s1, s2⟩
        · exact Or.inl s
        · rcases Nat.lt_or_ge i k with r | r
          · exact Or.inr ⟨s1, r⟩
          · have : i = k := by omega
            rw [this] at w s1
            exact absurd ⟨w, s1⟩ no)⟩)
      refine Pc_c (fun s => ?_) (fun s => skip (fun x => s (by rw [x.2])))
      have es : lvl S0 k = l := (nI_eq (by have := (CE_lvl hW kc).2.1; omega) (by omega)).mp s
      -- those that NODE k hangs on
      have vk : ∀ y, y < c → E k y → VQ (gA W q y) := fun y hy' ey => by
        rw [wq]
        by_cases gy : GBn S0 y
        · exact (h2 y hy' gy (Or.inl (by have := ll y ey; omega))).2
        · rw [h1 y hy' gy]
          exact vr y hy' gy
      have stp : ∀ r, GBn S0 k → r = NV S0 g k → Pc (zG (vp_in (nI k) 60) (zL (sA W q (upd (gA W q) (nI k).toNatClampNeg r)) (fun s7_48 => zL (nI k + 1) (fun v49 => some (Sum.inl (v49, s7_48)))))) (PcI (fun v : Int32 × SS => ∃ k g, v.1 = nI k ∧ k ≤ c ∧ v.2 = sA Y q g ∧ (∀ i, i < c → ¬ GBn S0 i → g i = gA Y q i) ∧ ∀ i, i < c → GBn S0 i → (lvl S0 i < l ∨ (lvl S0 i = l ∧ i < k)) → g i = NV S0 g i ∧ VQ (g i)) (fun U => ∃ g, U = sA Y q g ∧ (∀ i, i < c → ¬ GBn S0 i → g i = gA Y q i) ∧ ∀ i, i < c → GBn S0 i → lvl S0 i < l + 1 → g i = NV S0 g i ∧ VQ (g i))) := fun r gk er => by
        have nk : ∀ i, i < c → lvl S0 i ≤ l → ∀ y, E i y → y ≠ k := fun i hi li y ey e => by
          have := (CE_lvl h hi).2.2 y ey
          rw [e, es] at this
          omega
        have nv : ∀ i, i < c → GBn S0 i → lvl S0 i ≤ l → NV S0 (upd g k r) i = NV S0 g i := fun i hi gi li => NV_c h hi gi (fun y _ ey => by rw [pk_un (nk i hi li y ey)])
        refine Pc_G (fun _ => Pc_l (Pc_l (Pc_s ⟨k + 1, upd g k r, nI_1 k, by omega, ?_, fun i hi w => ?_, fun i hi w s => ?_⟩)))
        · show sA W q _ = _
          rw [wq, nI_clamp (by omega), eW, sA_sA]
        · rw [pk_un (fun e => w (by rw [e]; exact gk))]
          exact h1 i hi w
        · by_cases e : i = k
          · subst e
            rw [pk_us, nv i hi w (by omega), ← er]
            refine ⟨rfl, ?_⟩
            rw [er]
            refine NV_q h hi w (fun y hy' ey => ?_)
            have := vk y hy' ey
            rw [wq] at this
            exact this
          · have s' : lvl S0 i < l ∨ (lvl S0 i = l ∧ i < k) := by
              rcases s with s | ⟨s1, s2⟩
              · exact Or.inl s
              · exact Or.inr ⟨s1, by omega⟩
            rw [pk_un e, nv i hi w (by omega)]
            exact h2 i hi w s'
      refine Pc_e (e_kind7 hW kc) (Pc_c (fun k2 => Pc_e (e_kind7 hW kc) (Pc_B (P := fun r => r = NV S0 g k) ?_ (fun r hr => stp r (Or.inr k2) hr))) (fun k2 => Pc_e (e_kind7 hW kc) (Pc_c (fun k1 => Pc_e (e_kind7 hW kc) (Pc_B (P := fun r => r = NV S0 g k) ?_ (fun r hr => stp r (Or.inl k1) hr))) (fun k1 => skip (fun x => ?_)))))
      · refine Pc_c (fun _ => Pc_B (p_gate7 hW kc k2 q) (fun r hr => Pc_s ?_)) (fun x => absurd k2 x)
        rw [wq] at hr
        rw [NV_2 k2]
        exact hr
      · refine Pc_c (fun x => absurd x k2) (fun _ => Pc_B (p_bus7 hW kc k1 q vk) (fun r hr => Pc_s ?_))
        rw [wq] at hr
        rw [NV_1 k1]
        exact hr
      · rcases x.1 with y | y
        · exact absurd y k1
        · exact absurd y k2
theorem p_settle7 {b c : Nat} {E : Nat → Nat → Prop} {M : Nat → Nat} {S0 Y : SS} (h : CE b c E M S0 Y) (vr : ∀ i, i < c → ¬ GBn S0 i → VQ (gA Y 33 i)) : Pc (f_X7_settle Y) (fun Z => ∃ g, Z = sA Y 34 g ∧ SOL c S0 (gA Y 33) g) := by
  obtain ⟨hc, hb, _, h29, h30⟩ := h.1
  refine Pc_B (P := fun Z => ∃ g, Z = sA Y 34 g ∧ ∀ i, i < c → g i = gA Y 33 i) ?_ (fun Z ⟨g, eZ, hg⟩ => ?_)
  · refine Pc_I (fun v : Int32 × SS => ∃ k g, v.1 = nI k ∧ k ≤ c ∧ v.2 = sA Y 34 g ∧ ∀ i, i < k → g i = gA Y 33 i) (fun v hv => ?_) _ ⟨0, gA Y 34, rfl, Nat.zero_le _, sA_self.symm, fun i t => absurd t (Nat.not_lt_zero _)⟩
    obtain ⟨v, W⟩ := v
    obtain ⟨k, g, ev, hk, eW, hg⟩ : ∃ k g, v = nI k ∧ k ≤ c ∧ W = sA Y 34 g ∧ ∀ i, i < k → g i = gA Y 33 i := hv
    subst ev
    have w29 : gI W 29 = nI c := by rw [eW]; exact h29
    refine Pc_c (fun t => Pc_s ⟨g, eW, fun i hi => hg i ?_⟩) (fun t => Pc_G (fun _ => Pc_l (Pc_l (Pc_s ⟨k + 1, upd g k (gA Y 33 k), nI_1 k, ?_, ?_, fun i hi => ?_⟩))))
    · rw [w29, nI_leI (by omega) (by omega)] at t
      omega
    · rw [w29, nI_leI (by omega) (by omega)] at t
      omega
    · show sA W 34 _ = _
      rw [nI_clamp (by omega), eW, gA_eq, gA_ne (by decide), sA_sA]
    · by_cases e : i = k
      · rw [e, pk_us]
      · rw [pk_un e]
        exact hg i (by omega)
  · have hZ : CE b c E M S0 Z := by rw [eZ]; exact CE_sA h (by decide) g
    have z34 : gA Z 34 = g := by rw [eZ, gA_eq]
    refine Pc_B (p_follow7 hZ (q := 34) (by decide) (fun i hi w => by rw [z34, hg i hi]; exact vr i hi w)) (fun U ⟨g', e1, e2⟩ => Pc_s ⟨g', ?_, fun i hi => ⟨(e2 i hi).1, fun w => ?_⟩⟩)
    · show U = _
      rw [e1, eZ, sA_sA]
    · rw [(e2 i hi).2 w, z34]
      exact hg i hi
