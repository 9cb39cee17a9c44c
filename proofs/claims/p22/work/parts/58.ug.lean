/-! levels -/
def LVI (E : Nat → Nat → Prop) (c b B : Nat) (lv : Nat → Int32) : Prop := ∀ i, i < c → lv (60 * b + i) = -1 ∨ ∃ m, lv (60 * b + i) = nI m ∧ m ≤ B ∧ (∀ y, E i y → ∃ r, lv (60 * b + y) = nI r ∧ r < m) ∧ (m = 0 ∨ ∃ y r, E i y ∧ lv (60 * b + y) = nI r ∧ r + 1 = m)
theorem nI_m1 {m : Nat} (h : m < 2 ^ 31) : nI m ≠ -1 := fun q => (nd_h h).1 (Or.inl q)
theorem p_levels_79 {E : Nat → Nat → Prop} {c b B : Nat} {H : Nat → Nat} {Y : SS} (h : RG E c b H Y) (hB : B ≤ 5000) (lv : LVI E c b B (gA Y 17)) {i : Nat} (hi : i < c) : Pc (zI (b_X7_levels_79 Y (nI (60 * b + i))) zF ((0 : Int32), (0 : Int32))) (fun r => (r = -1 ∧ ∃ y, E i y ∧ gA Y 17 (60 * b + y) = -1) ∨ ∃ m, r = nI m ∧ m ≤ B + 1 ∧ (∀ y, E i y → ∃ r, gA Y 17 (60 * b + y) = nI r ∧ r < m) ∧ (m = 0 ∨ ∃ y r, E i y ∧ gA Y 17 (60 * b + y) = nI r ∧ r + 1 = m)) := by
  obtain ⟨⟨y26, hc⟩, ⟨y30, hb⟩, h3⟩ := id h
  obtain ⟨_, h12, ha, hz⟩ := h3 i hi
  refine Pc_I (fun v : Int32 × Int32 => ∃ j, v.2 = nI j ∧ j ≤ H i ∧ ((v.1 = -1 ∧ ∃ y, E i y ∧ gA Y 17 (60 * b + y) = -1) ∨ ∃ m, v.1 = nI m ∧ m ≤ B + 1 ∧ (∀ j' y, j' < j → y < c → gA Y 16 (12 * (60 * b + i) + j') = nI y → ∃ r, gA Y 17 (60 * b + y) = nI r ∧ r < m) ∧ (m = 0 ∨ ∃ y r, E i y ∧ gA Y 17 (60 * b + y) = nI r ∧ r + 1 = m))) (fun v hv => ?_) _ ⟨0, rfl, Nat.zero_le _, Or.inr ⟨0, rfl, Nat.zero_le _, fun j' y q => absurd q (Nat.not_lt_zero _), Or.inl rfl⟩⟩
  obtain ⟨w, v⟩ := v
  obtain ⟨j, ev, hj, hw⟩ : ∃ j, v = nI j ∧ j ≤ H i ∧ ((w = -1 ∧ ∃ y, E i y ∧ gA Y 17 (60 * b + y) = -1) ∨ ∃ m, w = nI m ∧ m ≤ B + 1 ∧ (∀ j' y, j' < j → y < c → gA Y 16 (12 * (60 * b + i) + j') = nI y → ∃ r, gA Y 17 (60 * b + y) = nI r ∧ r < m) ∧ (m = 0 ∨ ∃ y r, E i y ∧ gA Y 17 (60 * b + y) = nI r ∧ r + 1 = m)) := hv
  subst ev
  refine Pc_e (e_hangs h hi) (Pc_c (fun q => Pc_s ?_) (fun q => Pc_c (fun z => Pc_s ?_) (fun z => Pc_G (fun _ => Pc_G (fun _ => Pc_L (fun l el => ?_))))))
  · rw [nI_leI (by omega) (by omega)] at q
    rcases hw with hw | ⟨m, m1, m2, m3, m4⟩
    · exact Or.inl hw
    · refine Or.inr ⟨m, m1, m2, fun y e => ?_, m4⟩
      obtain ⟨yc, j', j1, j2⟩ := hz y e
      exact m3 j' y (by omega) yc j2
  · rcases hw with hw | ⟨m, m1, _⟩
    · exact Or.inl hw
    · rw [m1] at z
      exact absurd z (nI_pos (by omega))
  · rw [nI_leI (by omega) (by omega)] at q
    rcases hw with hw | ⟨m, m1, m2, m3, m4⟩
    · rw [hw.1] at z
      exact absurd (by decide) z
    · obtain ⟨y0, hy0, ey0, e0⟩ := ha j (by omega)
      have ix : ((12 : Int32) * nI (60 * b + i) + nI j).toNatClampNeg = 12 * (60 * b + i) + j := by rw [i12, nI_clamp (by omega)]
      have el2 : l = gA Y 17 (60 * b + y0) := by rw [el, ix, ey0, y30, i60 hb, nI_clamp (by omega)]
      rcases lv y0 hy0 with l1 | ⟨r, r1, r2, _⟩
      · refine Pc_c (fun u => absurd u (by rw [el2, l1]; decide)) (fun _ => Pc_l (Pc_s ⟨j + 1, nI_1 j, by omega, Or.inl ⟨rfl, y0, e0, l1⟩⟩))
      · have ex : ∀ m', r < m' → m ≤ m' → ∀ j' y, j' < j + 1 → y < c → gA Y 16 (12 * (60 * b + i) + j') = nI y → ∃ r, gA Y 17 (60 * b + y) = nI r ∧ r < m' := fun m' u1 u3 j' y j1 yc j2 => by
          rcases Nat.lt_or_ge j' j with u | u
          · obtain ⟨r, r1, r2⟩ := m3 j' y u yc j2
            exact ⟨r, r1, by omega⟩
          · have : j' = j := by omega
            rw [this, ey0] at j2
            have : y0 = y := (nI_eq (by omega) (by omega)).mp j2
            rw [← this]
            exact ⟨r, r1, u1⟩
        rw [el2, r1, m1]
        refine Pc_c (fun _ => Pc_c (fun u => Pc_l (Pc_s ⟨j + 1, nI_1 j, by omega, Or.inr ⟨m, rfl, m2, ex m ?_ (Nat.le_refl _), m4⟩⟩)) (fun u => Pc_l (Pc_l (Pc_s ⟨j + 1, nI_1 j, by omega, Or.inr ⟨r + 1, nI_1 r, by omega, ex (r + 1) (by omega) ?_, Or.inr ⟨y0, r, e0, r1, rfl⟩⟩⟩)))) (fun u => absurd (nI_pos' (by omega)) u)
        · rw [nI_1, nI_leI (by omega) (by omega)] at u
          omega
        · rw [nI_1, nI_leI (by omega) (by omega)] at u
          omega
/-- one pass over all NODES: what is told stays, what is not has one ahead that was not -/
theorem p_levels_43 {E : Nat → Nat → Prop} {c b B : Nat} {H : Nat → Nat} {Y : SS} (h : RG E c b H Y) (hB : B + 60 ≤ 5000) (lv : LVI E c b B (gA Y 17)) : Pc (zI b_X7_levels_43 zF ((0 : Int32), Y)) (fun Z => (∃ g, Z = sA Y 17 g ∧ ∀ j, (j < 60 * b ∨ 60 * b + 60 ≤ j) → g j = gA Y 17 j) ∧ LVI E c b (B + 60) (gA Z 17) ∧ (∀ i, i < c → gA Y 17 (60 * b + i) ≠ -1 → gA Z 17 (60 * b + i) ≠ -1) ∧ ∀ i, i < c → gA Z 17 (60 * b + i) = -1 → ∃ y, E i y ∧ gA Y 17 (60 * b + y) = -1) := by
  obtain ⟨⟨y26, hc⟩, ⟨y30, hb⟩, h3⟩ := id h
  refine Pc_I (fun v : Int32 × SS => ∃ p, v.1 = nI p ∧ p ≤ c ∧ (∃ g, v.2 = sA Y 17 g ∧ ∀ j, (j < 60 * b ∨ 60 * b + 60 ≤ j) → g j = gA Y 17 j) ∧ LVI E c b (B + p) (gA v.2 17) ∧ (∀ i, i < c → gA Y 17 (60 * b + i) ≠ -1 → gA v.2 17 (60 * b + i) ≠ -1) ∧ ∀ i, i < p → gA v.2 17 (60 * b + i) = -1 → ∃ y, E i y ∧ gA Y 17 (60 * b + y) = -1) (fun v hv => ?_) _ ⟨0, rfl, Nat.zero_le _, ⟨_, sA_self.symm, fun _ _ => rfl⟩, lv, fun i _ q => q, fun i q => absurd q (Nat.not_lt_zero _)⟩
  obtain ⟨v, Z⟩ := v
  obtain ⟨p, ev, hp, ⟨g, eZ, og⟩, lz, l1, l2⟩ : ∃ p, v = nI p ∧ p ≤ c ∧ (∃ g, Z = sA Y 17 g ∧ ∀ j, (j < 60 * b ∨ 60 * b + 60 ≤ j) → g j = gA Y 17 j) ∧ LVI E c b (B + p) (gA Z 17) ∧ (∀ i, i < c → gA Y 17 (60 * b + i) ≠ -1 → gA Z 17 (60 * b + i) ≠ -1) ∧ ∀ i, i < p → gA Z 17 (60 * b + i) = -1 → ∃ y, E i y ∧ gA Y 17 (60 * b + y) = -1 := hv
  subst ev
  have rz : RG E c b H Z := by rw [eZ]; exact RG_eq h rfl rfl (gA_ne (by decide)) (gA_ne (by decide)) (gA_ne (by decide))
  have wk : ∀ {B B' : Nat} {f : Nat → Int32}, LVI E c b B f → B ≤ B' → LVI E c b B' f := fun h hb i hi => by
    rcases h i hi with q | ⟨m, m1, m2, m3⟩
    · exact Or.inl q
    · exact Or.inr ⟨m, m1, by omega, m3⟩
  refine Pc_c (fun q => Pc_s ⟨⟨g, eZ, og⟩, wk lz (by omega), l1, fun i hi => l2 i ?_⟩) (fun q => ?_)
  · rw [rz.1.1, nI_leI (by omega) (by omega)] at q
    omega
  · rw [rz.1.1, nI_leI (by omega) (by omega)] at q
    rw [show (60 : Int32) * gI Z 30 + nI p = nI (60 * b + p) by rw [rz.2.1.1, i60 hb]]
    have m5 : (nI (60 * b + p)).toNatClampNeg = 60 * b + p := nI_clamp (by omega)
    refine Pc_l (Pc_G (fun _ => ?_))
    rw [m5]
    refine Pc_c (fun z => Pc_B (p_levels_79 rz (B := B + p) (by omega) lz (i := p) (by omega)) (fun r hr => Pc_l (Pc_l (Pc_s ?_)))) (fun z => Pc_l (Pc_s ⟨p + 1, nI_1 p, by omega, ⟨g, eZ, og⟩, wk lz (by omega), l1, fun i hi e => ?_⟩))
    · have was : gA Z 17 (60 * b + p) = -1 := by
        rcases lz p (by omega) with u | ⟨m, m1, _⟩
        · exact u
        · rw [m1] at z
          exact absurd z (nI_pos (by omega))
      have key : ∀ y, gA (sA Z 17 (upd (gA Z 17) (60 * b + p) r)) 17 (60 * b + y) = if y = p then r else gA Z 17 (60 * b + y) := fun y => by
        rw [gA_eq]
        by_cases u : y = p
        · rw [u, pk_us, if_pos rfl]
        · rw [pk_un (by omega), if_neg u]
      have keep : ∀ y r', gA Z 17 (60 * b + y) = nI r' → r' < 2 ^ 31 → gA (sA Z 17 (upd (gA Z 17) (60 * b + p) r)) 17 (60 * b + y) = nI r' := fun y r' u u2 => by
        rw [key, if_neg (fun w => ?_)]
        · exact u
        · rw [w, was] at u
          exact nI_m1 u2 u.symm
      refine ⟨p + 1, nI_1 p, by omega, ⟨upd (gA Z 17) (60 * b + p) r, by show sA Z 17 _ = _; rw [eZ, sA_sA], fun j hj => by rw [pk_un (by omega), eZ, gA_eq]; exact og j hj⟩, fun i hi => ?_, fun i hi u => ?_, fun i hi u => ?_⟩
      · show gA (sA Z 17 (upd (gA Z 17) (60 * b + p) r)) 17 (60 * b + i) = -1 ∨ _
        by_cases ip : i = p
        · rw [key, if_pos ip]
          rcases hr with ⟨r1, _⟩ | ⟨m, m1, m2, m3, m4⟩
          · exact Or.inl r1
          · refine Or.inr ⟨m, m1, by omega, fun y e => ?_, ?_⟩
            · rw [ip] at e
              obtain ⟨r', e1, e2⟩ := m3 y e
              exact ⟨r', keep y r' e1 (by omega), e2⟩
            · rcases m4 with m4 | ⟨y, r', e1, e2, e3⟩
              · exact Or.inl m4
              · rw [ip]
                exact Or.inr ⟨y, r', e1, keep y r' e2 (by omega), e3⟩
        · rw [key, if_neg ip]
          rcases lz i hi with u | ⟨m, m1, m2, m3, m4⟩
          · exact Or.inl u
          · refine Or.inr ⟨m, m1, by omega, fun y e => ?_, ?_⟩
            · obtain ⟨r', e1, e2⟩ := m3 y e
              exact ⟨r', keep y r' e1 (by omega), e2⟩
            · rcases m4 with m4 | ⟨y, r', e1, e2, e3⟩
              · exact Or.inl m4
              · exact Or.inr ⟨y, r', e1, keep y r' e2 (by omega), e3⟩
      · show gA (sA Z 17 (upd (gA Z 17) (60 * b + p) r)) 17 (60 * b + i) ≠ -1
        have := l1 i hi u
        rw [key, if_neg (fun w => this (by rw [w]; exact was))]
        exact this
      · have u : gA (sA Z 17 (upd (gA Z 17) (60 * b + p) r)) 17 (60 * b + i) = -1 := u
        rw [key] at u
        by_cases ip : i = p
        · rw [if_pos ip] at u
          rcases hr with ⟨_, y, e1, e2⟩ | ⟨m, m1, m2, _⟩
          · have yc := ((h3 p (by omega)).2.2.2 y e1).1
            rw [ip]
            exact ⟨y, e1, Classical.byContradiction (fun w => l1 y yc w e2)⟩
          · rw [m1] at u
            exact absurd u (nI_m1 (by omega))
        · rw [if_neg ip] at u
          exact l2 i (by omega) u
    · rcases Nat.lt_or_ge i p with u | u
      · exact l2 i u e
      · have : i = p := by omega
        rw [this] at e
        exact absurd (by rw [e]; decide) z
/-- an order by what can be come to -/
theorem rk_lt {E : Nat → Nat → Prop} {c : Nat} (ac : ∀ k, k < c → ¬ TC E c k k) {i y : Nat} (hy : y < c) (e : E i y) : cn (fun z => TC E c y z) c < cn (fun z => TC E c i z) c := cn_more (fun z _ h => TC_t hy ⟨0, e⟩ h) ⟨y, hy, ⟨0, e⟩, ac y hy⟩
theorem no_end {E : Nat → Nat → Prop} {c : Nat} (hE : ∀ i y, i < c → E i y → y < c) (ac : ∀ k, k < c → ¬ TC E c k k) {U : Nat → Prop} (hU : ∀ i, i < c → U i → ∃ y, E i y ∧ U y) : ∀ i, i < c → ¬ U i := by
  have go : ∀ n i, i < c → cn (fun z => TC E c i z) c ≤ n → ¬ U i := by
    intro n
    induction n with
    | zero =>
      intro i hi hn hu
      obtain ⟨y, e, _⟩ := hU i hi hu
      have := rk_lt ac (hE i y hi e) e
      omega
    | succ n ih =>
      intro i hi hn hu
      obtain ⟨y, e, hy⟩ := hU i hi hu
      have := rk_lt ac (hE i y hi e) e
      exact ih y (hE i y hi e) (by omega) hy
  exact fun i hi => go _ i hi (Nat.le_refl _)
/-- only rows 17 and 32 are changed -/
def F17 (X Y : SS) : Prop := (∀ k, gI Y k = gI X k) ∧ (∀ k, k ≠ 17 → k ≠ 32 → gA Y k = gA X k) ∧ (∀ k, gB Y k = gB X k)
/-- and of row 17 only the bank's places -/
def FG (b : Nat) (X Y : SS) : Prop := (∀ k, k ≠ 4 → k ≠ 5 → gI Y k = gI X k) ∧ (∀ k, k ≠ 17 → k ≠ 32 → gA Y k = gA X k) ∧ (∀ k, gB Y k = gB X k) ∧ ∀ j, (j < 60 * b ∨ 60 * b + 60 ≤ j) → gA Y 17 j = gA X 17 j
def LVA (E : Nat → Nat → Prop) (c b : Nat) (lv : Nat → Int32) : Prop := ∀ i, i < c → ∃ m, lv (60 * b + i) = nI m ∧ m ≤ 5000 ∧ (∀ y, E i y → ∃ r, lv (60 * b + y) = nI r ∧ r < m) ∧ (m = 0 ∨ ∃ y r, E i y ∧ lv (60 * b + y) = nI r ∧ r + 1 = m)
theorem p_levels {E : Nat → Nat → Prop} {c b : Nat} {H : Nat → Nat} {Y : SS} (h : RG E c b H Y) (y4 : gI Y 4 = 0) : Pc (f_X7_levels Y) (fun Z => (∃ k, k < c ∧ TC E c k k ∧ (∀ j, j < k → ¬ TC E c j j) ∧ gI Z 4 = 5 ∧ gI Z 5 = gA Y 18 k ∧ FG b Y Z) ∨ (gI Z 4 = 0 ∧ (∀ j, j < c → ¬ TC E c j j) ∧ F17 Y Z ∧ LVA E c b (gA Z 17))) := by
  obtain ⟨⟨y26, hc⟩, ⟨y30, hb⟩, h3⟩ := id h
  have hE : ∀ i y, i < c → E i y → y < c := fun i y hi e => ((h3 i hi).2.2.2 y e).1
  refine Pc_B (P := fun Z => (∃ g, Z = sA Y 17 g ∧ ∀ j, (j < 60 * b ∨ 60 * b + 60 ≤ j) → g j = gA Y 17 j) ∧ ∀ i, i < c → gA Z 17 (60 * b + i) = -1) ?_ (fun A hA => Pc_B (P := fun Z => (∃ g, Z = sA Y 17 g ∧ ∀ j, (j < 60 * b ∨ 60 * b + 60 ≤ j) → g j = gA Y 17 j) ∧ LVI E c b 5000 (gA Z 17) ∧ ((∀ j, j < c → ¬ TC E c j j) → ∀ i, i < c → gA Z 17 (60 * b + i) ≠ -1)) ?_ (fun B hB => ?_))
  · refine Pc_I (fun v : Int32 × SS => ∃ p, v.1 = nI p ∧ p ≤ c ∧ (∃ g, v.2 = sA Y 17 g ∧ ∀ j, (j < 60 * b ∨ 60 * b + 60 ≤ j) → g j = gA Y 17 j) ∧ ∀ i, i < p → gA v.2 17 (60 * b + i) = -1) (fun v hv => ?_) _ ⟨0, rfl, Nat.zero_le _, ⟨_, sA_self.symm, fun _ _ => rfl⟩, fun i q => absurd q (Nat.not_lt_zero _)⟩
    obtain ⟨v, Z⟩ := v
    obtain ⟨p, ev, hp, ⟨g, eZ, og⟩, l⟩ : ∃ p, v = nI p ∧ p ≤ c ∧ (∃ g, Z = sA Y 17 g ∧ ∀ j, (j < 60 * b ∨ 60 * b + 60 ≤ j) → g j = gA Y 17 j) ∧ ∀ i, i < p → gA Z 17 (60 * b + i) = -1 := hv
    subst ev
    have z26 : gI Z 26 = nI c := by rw [eZ]; exact y26
    have z30 : gI Z 30 = nI b := by rw [eZ]; exact y30
    refine Pc_c (fun q => Pc_s ⟨⟨g, eZ, og⟩, fun i hi => l i ?_⟩) (fun q => Pc_G (fun _ => Pc_l (Pc_l (Pc_s ⟨p + 1, nI_1 p, ?_, ⟨upd (gA Z 17) (((60 : Int32) * gI Z 30) + nI p).toNatClampNeg (-1), ?_, fun j hj => ?_⟩, fun i hi => ?_⟩))))
    · rw [z26, nI_leI (by omega) (by omega)] at q
      omega
    · rw [z26, nI_leI (by omega) (by omega)] at q
      omega
    · show sA Z 17 _ = _
      rw [eZ, sA_sA]
    · rw [z26, nI_leI (by omega) (by omega)] at q
      rw [z30, i60 hb, nI_clamp (by omega), pk_un (by omega), eZ, gA_eq]
      exact og j hj
    · rw [z26, nI_leI (by omega) (by omega)] at q
      show gA (sA Z 17 (upd (gA Z 17) (((60 : Int32) * gI Z 30) + nI p).toNatClampNeg (-1))) 17 (60 * b + i) = -1
      rw [gA_eq, z30, i60 hb, nI_clamp (by omega)]
      by_cases u : i = p
      · rw [u, pk_us]
      · rw [pk_un (by omega)]
        exact l i (by omega)
  · obtain ⟨⟨g, eA, oA⟩, lA⟩ := hA
    refine Pc_I (fun v : Int32 × SS => ∃ t, v.1 = nI t ∧ t ≤ c + 1 ∧ (∃ g, v.2 = sA Y 17 g ∧ ∀ j, (j < 60 * b ∨ 60 * b + 60 ≤ j) → g j = gA Y 17 j) ∧ LVI E c b (60 * t) (gA v.2 17) ∧ ((∀ j, j < c → ¬ TC E c j j) → (∀ i, i < c → gA v.2 17 (60 * b + i) ≠ -1) ∨ t ≤ cn (fun i => gA v.2 17 (60 * b + i) ≠ -1) c)) (fun v hv => ?_) _ ⟨0, rfl, Nat.zero_le _, ⟨g, eA, oA⟩, fun i hi => Or.inl (lA i hi), fun _ => Or.inr (Nat.zero_le _)⟩
    obtain ⟨v, Z⟩ := v
    obtain ⟨t, ev, ht, ⟨g, eZ, og⟩, lz, al⟩ : ∃ t, v = nI t ∧ t ≤ c + 1 ∧ (∃ g, Z = sA Y 17 g ∧ ∀ j, (j < 60 * b ∨ 60 * b + 60 ≤ j) → g j = gA Y 17 j) ∧ LVI E c b (60 * t) (gA Z 17) ∧ ((∀ j, j < c → ¬ TC E c j j) → (∀ i, i < c → gA Z 17 (60 * b + i) ≠ -1) ∨ t ≤ cn (fun i => gA Z 17 (60 * b + i) ≠ -1) c) := hv
    subst ev
    have rz : RG E c b H Z := by rw [eZ]; exact RG_eq h rfl rfl (gA_ne (by decide)) (gA_ne (by decide)) (gA_ne (by decide))
    refine Pc_c (fun q => Pc_s ⟨⟨g, eZ, og⟩, fun i hi => ?_, fun ac => ?_⟩) (fun q => ?_)
    · rcases lz i hi with u | ⟨m, m1, m2, m3⟩
      · exact Or.inl u
      · exact Or.inr ⟨m, m1, by omega, m3⟩
    · rw [rz.1.1, nI_ltI (by omega) (by omega)] at q
      rcases al ac with u | u
      · exact u
      · have := cn_le (P := fun i => gA Z 17 (60 * b + i) ≠ -1) c
        omega
    · rw [rz.1.1, nI_ltI (by omega) (by omega)] at q
      refine Pc_B (p_levels_43 rz (B := 60 * t) (by omega) lz) (fun W hW => Pc_l (Pc_s ?_))
      obtain ⟨⟨g2, eW, oW⟩, lw, w1, w2⟩ := hW
      refine ⟨t + 1, nI_1 t, by omega, ⟨g2, by show W = _; rw [eW, eZ, sA_sA], fun j hj => by rw [oW j hj, eZ, gA_eq]; exact og j hj⟩, by rw [show 60 * (t + 1) = 60 * t + 60 by omega]; exact lw, fun ac => ?_⟩
      by_cases all : ∀ i, i < c → gA Z 17 (60 * b + i) ≠ -1
      · exact Or.inl (fun i hi => w1 i hi (all i hi))
      · have tl : t ≤ cn (fun i => gA Z 17 (60 * b + i) ≠ -1) c := by
          rcases al ac with u | u
          · exact absurd u all
          · exact u
        refine Or.inr (Nat.le_trans (by omega) (cn_more (P := fun i => gA Z 17 (60 * b + i) ≠ -1) (fun i hi u => w1 i hi u) (Classical.byContradiction (fun no => ?_))))
        refine all (fun i hi e => no_end hE ac (U := fun i => i < c ∧ gA Z 17 (60 * b + i) = -1) (fun i hi u => ?_) i hi ⟨hi, e⟩)
        have wi : gA W 17 (60 * b + i) = -1 := Classical.byContradiction (fun z => no ⟨i, hi, z, fun y => y u.2⟩)
        obtain ⟨y, e1, e2⟩ := w2 i hi wi
        exact ⟨y, e1, hE i y hi e1, e2⟩
  · obtain ⟨⟨g, eB, oB⟩, lb, al⟩ := hB
    have rb : RG E c b H B := by rw [eB]; exact RG_eq h rfl rfl (gA_ne (by decide)) (gA_ne (by decide)) (gA_ne (by decide))
    have dec : ∀ n i j, i < c → Pn E c n i j → ∀ m, gA B 17 (60 * b + i) = nI m → m ≤ 5000 → ∃ r, gA B 17 (60 * b + j) = nI r ∧ r < m := by
      intro n
      have one : ∀ i y, i < c → E i y → ∀ m, gA B 17 (60 * b + i) = nI m → m ≤ 5000 → ∃ r, gA B 17 (60 * b + y) = nI r ∧ r < m := fun i y hi e m em hm => by
        rcases lb i hi with u | ⟨m', m1, m2, m3, _⟩
        · rw [em] at u
          exact absurd u (nI_m1 (by omega))
        · rw [em] at m1
          have : m = m' := (nI_eq (by omega) (by omega)).mp m1
          rw [this]
          exact m3 y e
      induction n with
      | zero => intro i j hi e m em hm; exact one i j hi e m em hm
      | succ n ih =>
        intro i j hi e m em hm
        obtain ⟨k, k1, k2, k3⟩ := e
        obtain ⟨r, r1, r2⟩ := one i k hi k2 m em hm
        obtain ⟨s, s1, s2⟩ := ih k j k1 k3 r r1 (by omega)
        exact ⟨s, s1, by omega⟩
    have fB : F17 Y B := ⟨fun k => by rw [eB]; rfl, fun k k1 _ => by rw [eB, gA_ne k1], fun k => by rw [eB]; rfl⟩
    refine Pc_I (fun v : Int32 × SS => (∃ k, k < c ∧ TC E c k k ∧ (∀ j, j < k → ¬ TC E c j j) ∧ gI v.2 4 = 5 ∧ gI v.2 5 = gA Y 18 k ∧ FG b Y v.2) ∨ (gI v.2 4 = 0 ∧ (∃ g, v.2 = sA B 32 g) ∧ ∃ k, v.1 = nI k ∧ k ≤ c ∧ ∀ j, j < k → ¬ TC E c j j)) (fun v hv => ?_) _ (Or.inr ⟨by rw [eB]; exact y4, ⟨_, sA32 B⟩, 0, rfl, Nat.zero_le _, fun j q => absurd q (Nat.not_lt_zero _)⟩)
    obtain ⟨v, Z⟩ := v
    have hv : (∃ k, k < c ∧ TC E c k k ∧ (∀ j, j < k → ¬ TC E c j j) ∧ gI Z 4 = 5 ∧ gI Z 5 = gA Y 18 k ∧ FG b Y Z) ∨ (gI Z 4 = 0 ∧ (∃ g, Z = sA B 32 g) ∧ ∃ k, v = nI k ∧ k ≤ c ∧ ∀ j, j < k → ¬ TC E c j j) := hv
    rcases hv with hv | ⟨z4, ⟨g2, eZ⟩, k, ev, hk, no⟩
    · have z4 : gI Z 4 ≠ 0 := by
        obtain ⟨_, _, _, _, z, _⟩ := hv
        rw [z]; decide
      exact Pc_c (fun _ => Pc_s (Or.inl hv)) (fun _ => Pc_e (e_isGood0 z4) (Pc_c (fun _ => Pc_s (Or.inl hv)) (fun y => absurd rfl y)))
    · subst ev
      have rz : RG E c b H Z := by rw [eZ]; exact RG_eq rb rfl rfl (gA_ne (by decide)) (gA_ne (by decide)) (gA_ne (by decide))
      have z17 : gA Z 17 = gA B 17 := by rw [eZ, gA_ne (by decide)]
      have cl : (nI k).toNatClampNeg = k := nI_clamp (by omega)
      have m5 : ((60 : Int32) * gI Z 30 + nI k).toNatClampNeg = 60 * b + k := by rw [rz.2.1.1, i60 hb, nI_clamp (by omega)]
      have up : ¬ TC E c k k → ∀ j, j < k + 1 → ¬ TC E c j j := fun u j hj => by
        rcases Nat.lt_or_ge j k with w | w
        · exact no j w
        · have : j = k := by omega
          rw [this]
          exact u
      refine Pc_c (fun q => Pc_s (Or.inr ⟨z4, ?_⟩)) (fun q => Pc_e (e_isGood1 z4) (Pc_c (fun y => absurd y ne10) (fun _ => Pc_G (fun _ => ?_))))
      · rw [rz.1.1, nI_leI (by omega) (by omega)] at q
        have ac : ∀ j, j < c → ¬ TC E c j j := fun j hj => no j (by omega)
        refine ⟨ac, ⟨fun k => by rw [eZ]; exact fB.1 k, fun k k1 k2 => by rw [eZ, gA_ne k2]; exact fB.2.1 k k1 k2, fun k => by rw [eZ]; exact fB.2.2 k⟩, fun i hi => ?_⟩
        rw [z17]
        rcases lb i hi with u | u
        · exact absurd u (al ac i hi)
        · exact u
      · rw [rz.1.1, nI_leI (by omega) (by omega)] at q
        rw [m5, z17]
        refine Pc_c (fun u => Pc_l (Pc_s (Or.inr ⟨z4, ⟨g2, eZ⟩, k + 1, nI_1 k, by omega, up (fun w => ?_)⟩))) (fun u => Pc_B (p_hangsOnItself rz (k := k) (by omega)) (fun w hw => ?_))
        · rcases lb k (by omega) with x | ⟨m, m1, m2, _⟩
          · rw [x] at u
            exact absurd u (by decide)
          · obtain ⟨n, w⟩ := w
            obtain ⟨r, r1, r2⟩ := dec n k k (by omega) w m m1 m2
            rw [m1] at r1
            have := (nI_eq (by omega) (by omega)).mp r1
            omega
        · obtain ⟨r, W⟩ := w
          obtain ⟨hr, g3, eW⟩ : (r ≠ 0 ↔ TC E c k k) ∧ ∃ g, W = sA Z 32 g := hw
          have w4 : gI W 4 = 0 := by rw [eW]; exact z4
          refine Pc_c (fun x => Pc_l (Pc_s (Or.inr ⟨w4, ⟨g3, by show W = _; rw [eW, eZ, sA_sA]⟩, k + 1, nI_1 k, by omega, up (fun y => (hr.mpr y) x)⟩))) (fun x => Pc_G (fun _ => Pc_e (e_fails w4 5 _) (Pc_l (Pc_s (Or.inl ⟨k, by omega, hr.mp x, no, by rw [gI_ne (by decide), gI_eq], ?_, ?_⟩)))))
          · rw [gI_eq, cl, eW, gA_ne (by decide), eZ, gA_ne (by decide)]
            exact congrFun (fB.2.1 18 (by decide) (by decide)) k
          · refine ⟨fun j j1 j2 => ?_, fun j j1 j2 => ?_, fun j => ?_, fun j hj => ?_⟩
            · rw [gI_ne j2, gI_ne j1, eW, eZ]; exact fB.1 j
            · rw [gA_sI, gA_sI, eW, gA_ne j2, eZ, gA_ne j2]; exact fB.2.1 j j1 j2
            · rw [gB_sI, gB_sI, eW, eZ]; exact fB.2.2 j
            · rw [gA_sI, gA_sI, eW, gA_ne (by decide), eZ, gA_ne (by decide), eB, gA_eq]; exact oB j hj
