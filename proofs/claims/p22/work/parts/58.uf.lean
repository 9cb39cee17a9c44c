/-! the reference looks for a NODE that hangs on itself -/
def RG (E : Nat → Nat → Prop) (c b : Nat) (H : Nat → Nat) (Y : SS) : Prop := (gI Y 26 = nI c ∧ c ≤ 60) ∧ (gI Y 30 = nI b ∧ b ≤ 1) ∧ ∀ i, i < c → ((gA Y 12 (60 * b + i) = 2 ∧ gA Y 14 (60 * b + i) = nI (H i)) ∨ (gA Y 12 (60 * b + i) = 1 ∧ ∃ m, gA Y 14 (60 * b + i) = nI m ∧ H i = 2 * m) ∨ (gA Y 12 (60 * b + i) ≠ 2 ∧ gA Y 12 (60 * b + i) ≠ 1 ∧ H i = 0)) ∧ H i ≤ 12 ∧ (∀ j, j < H i → ∃ y, y < c ∧ gA Y 16 (12 * (60 * b + i) + j) = nI y ∧ E i y) ∧ ∀ y, E i y → y < c ∧ ∃ j, j < H i ∧ gA Y 16 (12 * (60 * b + i) + j) = nI y
theorem RG_eq {E : Nat → Nat → Prop} {c b : Nat} {H : Nat → Nat} {Y Z : SS} (h : RG E c b H Y) (e26 : gI Z 26 = gI Y 26) (e30 : gI Z 30 = gI Y 30) (e12 : gA Z 12 = gA Y 12) (e14 : gA Z 14 = gA Y 14) (e16 : gA Z 16 = gA Y 16) : RG E c b H Z := by
  unfold RG
  rw [e26, e30, e12, e14, e16]
  exact h
theorem e_hangs {E : Nat → Nat → Prop} {c b : Nat} {H : Nat → Nat} {Y : SS} (h : RG E c b H Y) {i : Nat} (hi : i < c) : f_X7_hangs Y (nI (60 * b + i)) = some (nI (H i)) := by
  obtain ⟨⟨_, hc⟩, ⟨_, hb⟩, h3⟩ := h
  have m5 : (nI (60 * b + i)).toNatClampNeg = 60 * b + i := nI_clamp (by omega)
  have mi : (nI (60 * b + i)).toInt = ((60 * b + i : Nat) : Int) := nI_toInt (by omega)
  refine E_G (ti_in (by omega) (by omega)) ?_
  rw [m5]
  rcases (h3 i hi).1 with ⟨q1, q2⟩ | ⟨q1, m, q2, q3⟩ | ⟨q1, q2, q3⟩
  · exact E_y q1 (by rw [q2])
  · refine E_n (ne_of q1 (by decide)) (E_y q1 ?_)
    rw [q2, q3, show (2 : Int32) = nI 2 from rfl, pk_mul]
  · refine E_n q1 (E_n q2 ?_)
    rw [q3]
    rfl
theorem sA32 (Y : SS) : Y = sA Y 32 (gA Y 32) := sA_self.symm
theorem p_lead {E : Nat → Nat → Prop} {c b : Nat} {H : Nat → Nat} {Y : SS} (h : RG E c b H Y) {k : Nat} (hk : k < c) : Pc (f_X7_lead Y (nI k)) (fun Z => ∃ g, Z = sA Y 32 g ∧ ∀ y, y < c → (g y ≠ 0 ↔ gA Y 32 y ≠ 0 ∨ E k y)) := by
  obtain ⟨⟨y26, hc⟩, ⟨y30, hb⟩, h3⟩ := id h
  obtain ⟨_, h12, ha, hz⟩ := h3 k hk
  have m : (60 : Int32) * gI Y 30 + nI k = nI (60 * b + k) := by rw [y30, i60 hb]
  unfold f_X7_lead
  rw [m]
  refine Pc_l (Pc_w (Q := fun Z => ∃ g, Z = sA Y 32 g ∧ ∀ y, y < c → (g y ≠ 0 ↔ gA Y 32 y ≠ 0 ∨ ∃ j, j < H k ∧ gA Y 16 (12 * (60 * b + k) + j) = nI y)) ?_ (fun Z hZ => ?_))
  · refine Pc_I (fun v : Int32 × SS => ∃ g j, v.1 = nI j ∧ j ≤ H k ∧ v.2 = sA Y 32 g ∧ ∀ y, y < c → (g y ≠ 0 ↔ gA Y 32 y ≠ 0 ∨ ∃ j', j' < j ∧ gA Y 16 (12 * (60 * b + k) + j') = nI y)) (fun v hv => ?_) _ ⟨gA Y 32, 0, rfl, Nat.zero_le _, sA32 Y, fun y _ => ⟨fun q => Or.inl q, fun q => by rcases q with q | ⟨j, q, _⟩; exact q; exact absurd q (Nat.not_lt_zero _)⟩⟩
    obtain ⟨v, Z⟩ := v
    obtain ⟨g, j, ev, hj, eZ, hg⟩ : ∃ g j, v = nI j ∧ j ≤ H k ∧ Z = sA Y 32 g ∧ ∀ y, y < c → (g y ≠ 0 ↔ gA Y 32 y ≠ 0 ∨ ∃ j', j' < j ∧ gA Y 16 (12 * (60 * b + k) + j') = nI y) := hv
    subst ev
    have rz : RG E c b H Z := by rw [eZ]; exact RG_eq h rfl rfl (gA_ne (by decide)) (gA_ne (by decide)) (gA_ne (by decide))
    have z16 : gA Z 16 = gA Y 16 := by rw [eZ, gA_ne (by decide)]
    refine Pc_e (e_hangs rz hk) (Pc_c (fun q => Pc_s ⟨g, eZ, ?_⟩) (fun q => Pc_G (fun _ => Pc_G (fun _ => Pc_l (Pc_l (Pc_s ?_))))))
    · rw [nI_leI (by omega) (by omega)] at q
      have : j = H k := by omega
      rw [this] at hg
      exact hg
    · rw [nI_leI (by omega) (by omega)] at q
      obtain ⟨y0, hy0, ey0, _⟩ := ha j (by omega)
      have ix : ((12 : Int32) * nI (60 * b + k) + nI j).toNatClampNeg = 12 * (60 * b + k) + j := by rw [i12, nI_clamp (by omega)]
      refine ⟨upd g y0 1, j + 1, nI_1 j, by omega, ?_, fun y hy => ?_⟩
      · show sA Z 32 (upd (gA Z 32) (gA Z 16 ((12 : Int32) * nI (60 * b + k) + nI j).toNatClampNeg).toNatClampNeg (vp_nar .boolean 1)) = _
        rw [ix, z16, ey0, nI_clamp (by omega), nar1, eZ, sA_sA, gA_eq]
      · by_cases z : y = y0
        · rw [z, pk_us]
          exact ⟨fun _ => Or.inr ⟨j, by omega, ey0⟩, fun _ => ne10⟩
        · rw [pk_un z, hg y hy]
          constructor
          · rintro (w | ⟨j', w1, w2⟩)
            · exact Or.inl w
            · exact Or.inr ⟨j', by omega, w2⟩
          · rintro (w | ⟨j', w1, w2⟩)
            · exact Or.inl w
            · rcases Nat.lt_or_ge j' j with u | u
              · exact Or.inr ⟨j', u, w2⟩
              · have : j' = j := by omega
                rw [this, ey0] at w2
                exact absurd ((nI_eq (by omega) (by omega)).mp w2).symm z
  · obtain ⟨g, eZ, hg⟩ := hZ
    refine ⟨g, eZ, fun y hy => ?_⟩
    rw [hg y hy]
    constructor
    · rintro (w | ⟨j, w1, w2⟩)
      · exact Or.inl w
      · obtain ⟨y', hy', e1, e2⟩ := ha j w1
        rw [e1] at w2
        have : y' = y := (nI_eq (by omega) (by omega)).mp w2
        rw [← this]
        exact Or.inr e2
    · rintro (w | w)
      · exact Or.inl w
      · exact Or.inr (hz y w).2
/-- those that are led to -/
def LD (c : Nat) (Y : SS) (y : Nat) : Prop := y < c ∧ gA Y 32 y ≠ 0
theorem p_pass {E : Nat → Nat → Prop} {c b : Nat} {H : Nat → Nat} {Y : SS} (h : RG E c b H Y) : Pc (zI b_X7_hangsOnItself_40 zF ((0 : Int32), Y)) (fun Z => (∃ g, Z = sA Y 32 g) ∧ (∀ y, LD c Y y → LD c Z y) ∧ (∀ k y, LD c Y k → E k y → LD c Z y) ∧ ∀ D : Nat → Prop, (∀ y, LD c Y y → D y) → (∀ k y, D k → k < c → E k y → D y) → ∀ y, LD c Z y → D y) := by
  obtain ⟨⟨y26, hc⟩, ⟨y30, hb⟩, h3⟩ := id h
  refine Pc_I (fun v : Int32 × SS => ∃ p, v.1 = nI p ∧ p ≤ c ∧ (∃ g, v.2 = sA Y 32 g) ∧ (∀ y, LD c Y y → LD c v.2 y) ∧ (∀ k y, k < p → LD c Y k → E k y → LD c v.2 y) ∧ ∀ D : Nat → Prop, (∀ y, LD c Y y → D y) → (∀ k y, D k → k < c → E k y → D y) → ∀ y, LD c v.2 y → D y) (fun v hv => ?_) _ ⟨0, rfl, Nat.zero_le _, ⟨_, sA32 Y⟩, fun y q => q, fun k y q => absurd q (Nat.not_lt_zero _), fun D q _ => q⟩
  obtain ⟨v, Z⟩ := v
  obtain ⟨p, ev, hp, ⟨g, eZ⟩, l1, l2, l3⟩ : ∃ p, v = nI p ∧ p ≤ c ∧ (∃ g, Z = sA Y 32 g) ∧ (∀ y, LD c Y y → LD c Z y) ∧ (∀ k y, k < p → LD c Y k → E k y → LD c Z y) ∧ ∀ D : Nat → Prop, (∀ y, LD c Y y → D y) → (∀ k y, D k → k < c → E k y → D y) → ∀ y, LD c Z y → D y := hv
  subst ev
  have cl : (nI p).toNatClampNeg = p := nI_clamp (by omega)
  have rz : RG E c b H Z := by rw [eZ]; exact RG_eq h rfl rfl (gA_ne (by decide)) (gA_ne (by decide)) (gA_ne (by decide))
  refine Pc_c (fun q => Pc_s ⟨⟨g, eZ⟩, l1, fun k y z => l2 k y ?_ z, l3⟩) (fun q => Pc_G (fun _ => ?_))
  · rw [rz.1.1, nI_leI (by omega) (by omega)] at q
    have := z.1
    omega
  · rw [rz.1.1, nI_leI (by omega) (by omega)] at q
    rw [cl]
    refine Pc_c (fun z => Pc_l (Pc_s ⟨p + 1, nI_1 p, by omega, ⟨g, eZ⟩, l1, fun k y k1 k2 k3 => ?_, l3⟩)) (fun z => Pc_B (p_lead rz (k := p) (by omega)) (fun W hW => Pc_l (Pc_s ?_)))
    · rcases Nat.lt_or_ge k p with u | u
      · exact l2 k y u k2 k3
      · have : k = p := by omega
        rw [this] at k2
        exact absurd z (l1 p k2).2
    · obtain ⟨g2, eW, hg⟩ := hW
      have w32 : ∀ y, y < c → (gA W 32 y ≠ 0 ↔ gA Z 32 y ≠ 0 ∨ E p y) := fun y hy => by rw [eW, gA_eq]; exact hg y hy
      refine ⟨p + 1, nI_1 p, by omega, ⟨g2, by show W = _; rw [eW, eZ, sA_sA]⟩, fun y u => ?_, fun k y k1 k2 k3 => ?_, fun D d1 d2 y u => ?_⟩
      · have := l1 y u
        exact ⟨this.1, (w32 y this.1).mpr (Or.inl this.2)⟩
      · rcases Nat.lt_or_ge k p with u | u
        · have := l2 k y u k2 k3
          exact ⟨this.1, (w32 y this.1).mpr (Or.inl this.2)⟩
        · have : k = p := by omega
          rw [this] at k3
          have yc := ((h3 p (by omega)).2.2.2 y k3).1
          exact ⟨yc, (w32 y yc).mpr (Or.inr k3)⟩
      · rcases (w32 y u.1).mp u.2 with w | w
        · exact l3 D d1 d2 y ⟨u.1, w⟩
        · exact d2 p y (l3 D d1 d2 p ⟨by omega, z⟩) (by omega) w
theorem cn_more {P Q : Nat → Prop} : ∀ {c : Nat}, (∀ y, y < c → P y → Q y) → (∃ y, y < c ∧ Q y ∧ ¬ P y) → cn P c + 1 ≤ cn Q c := by
  intro c
  induction c with
  | zero => rintro _ ⟨y, h, _⟩; exact absurd h (Nat.not_lt_zero _)
  | succ c ih =>
    rintro h ⟨y, y1, y2, y3⟩
    by_cases e : y = c
    · rw [e] at y2 y3
      have := cn_imp (k := c) (P := P) (Q := Q) (fun i hi => h i (by omega))
      rw [cn_n y3, cn_y y2]
      omega
    · have := ih (fun i hi => h i (by omega)) ⟨y, by omega, y2, y3⟩
      by_cases q : P c
      · rw [cn_y q, cn_y (h c (by omega) q)]; omega
      · rw [cn_n q]
        exact Nat.le_trans this (cn_mono (by omega))
theorem p_hangsOnItself {E : Nat → Nat → Prop} {c b : Nat} {H : Nat → Nat} {Y : SS} (h : RG E c b H Y) {k : Nat} (hk : k < c) : Pc (f_X7_hangsOnItself Y (nI k)) (fun w => (w.1 ≠ 0 ↔ TC E c k k) ∧ ∃ g, w.2 = sA Y 32 g) := by
  obtain ⟨⟨y26, hc⟩, ⟨y30, hb⟩, h3⟩ := id h
  have ck : (nI k).toNatClampNeg = k := nI_clamp (by omega)
  refine Pc_B (P := fun Z => ∃ g, Z = sA Y 32 g ∧ ∀ y, y < c → g y = 0) ?_ (fun A hA => ?_)
  · refine Pc_I (fun v : Int32 × SS => ∃ g p, v.1 = nI p ∧ p ≤ c ∧ v.2 = sA Y 32 g ∧ ∀ y, y < p → g y = 0) (fun v hv => ?_) _ ⟨gA Y 32, 0, rfl, Nat.zero_le _, sA32 Y, fun y q => absurd q (Nat.not_lt_zero _)⟩
    obtain ⟨v, Z⟩ := v
    obtain ⟨g, p, ev, hp, eZ, hg⟩ : ∃ g p, v = nI p ∧ p ≤ c ∧ Z = sA Y 32 g ∧ ∀ y, y < p → g y = 0 := hv
    subst ev
    have z26 : gI Z 26 = nI c := by rw [eZ]; exact y26
    refine Pc_c (fun q => Pc_s ⟨g, eZ, ?_⟩) (fun q => Pc_G (fun _ => Pc_l (Pc_l (Pc_s ⟨upd g p 0, p + 1, nI_1 p, ?_, ?_, fun y hy => ?_⟩))))
    · rw [z26, nI_leI (by omega) (by omega)] at q
      have : p = c := by omega
      rw [this] at hg
      exact hg
    · rw [z26, nI_leI (by omega) (by omega)] at q
      omega
    · show sA Z 32 (upd (gA Z 32) (nI p).toNatClampNeg (vp_nar .boolean 0)) = _
      rw [nI_clamp (by omega), nar0, eZ, sA_sA, gA_eq]
    · by_cases z : y = p
      · rw [z, pk_us]
      · rw [pk_un z]
        exact hg y (by omega)
  · obtain ⟨g0, eA, h0⟩ := hA
    have rA : RG E c b H A := by rw [eA]; exact RG_eq h rfl rfl (gA_ne (by decide)) (gA_ne (by decide)) (gA_ne (by decide))
    refine Pc_B (p_lead rA hk) (fun B hB => ?_)
    obtain ⟨g1, eB, h1⟩ := hB
    have b32 : ∀ y, y < c → (gA B 32 y ≠ 0 ↔ E k y) := fun y hy => by
      rw [eB, gA_eq, h1 y hy, eA, gA_eq, h0 y hy]
      exact ⟨fun q => by rcases q with q | q; exact absurd rfl q; exact q, fun q => Or.inr q⟩
    refine Pc_I (fun v : Int32 × SS => ∃ t, v.1 = nI t ∧ t ≤ c ∧ (∃ g, v.2 = sA Y 32 g) ∧ (∀ y, E k y → LD c v.2 y) ∧ (∀ y, LD c v.2 y → TC E c k y) ∧ ((∀ i y, LD c v.2 i → E i y → LD c v.2 y) ∨ t + 1 ≤ cn (LD c v.2) c)) (fun v hv => ?_) _ ⟨0, rfl, Nat.zero_le _, ⟨g1, by show B = _; rw [eB, eA, sA_sA]⟩, fun y q => ?_, fun y q => ⟨0, (b32 y q.1).mp q.2⟩, ?_⟩
    · obtain ⟨v, Z⟩ := v
      obtain ⟨t, ev, ht, ⟨g, eZ⟩, l1, l2, l3⟩ : ∃ t, v = nI t ∧ t ≤ c ∧ (∃ g, Z = sA Y 32 g) ∧ (∀ y, E k y → LD c Z y) ∧ (∀ y, LD c Z y → TC E c k y) ∧ ((∀ i y, LD c Z i → E i y → LD c Z y) ∨ t + 1 ≤ cn (LD c Z) c) := hv
      subst ev
      have rz : RG E c b H Z := by rw [eZ]; exact RG_eq h rfl rfl (gA_ne (by decide)) (gA_ne (by decide)) (gA_ne (by decide))
      refine Pc_c (fun q => Pc_G (fun _ => Pc_G (fun _ => Pc_s ⟨?_, g, eZ⟩))) (fun q => Pc_B (p_pass rz) (fun W hW => Pc_l (Pc_s ?_)))
      · rw [rz.1.1, nI_leI (by omega) (by omega)] at q
        have cls : ∀ i y, LD c Z i → E i y → LD c Z y := by
          rcases l3 with l3 | l3
          · exact l3
          · have := cn_le (P := LD c Z) c
            omega
        have go : ∀ n i y, LD c Z i → Pn E c n i y → LD c Z y := by
          intro n
          induction n with
          | zero => intro i y a e; exact cls i y a e
          | succ n ih =>
            intro i y a e
            obtain ⟨r, r1, r2, r3⟩ := e
            exact ih r y (cls i r a r2) r3
        show gA Z 32 (nI k).toNatClampNeg ≠ 0 ↔ _
        rw [ck]
        constructor
        · intro z
          exact l2 k ⟨hk, z⟩
        · rintro ⟨n, z⟩
          cases n with
          | zero => exact (l1 k z).2
          | succ n =>
            obtain ⟨r, r1, r2, r3⟩ := z
            exact (go n r k (l1 r r2) r3).2
      · rw [rz.1.1, nI_leI (by omega) (by omega)] at q
        obtain ⟨⟨g2, eW⟩, w1, w2, w3⟩ := hW
        refine ⟨t + 1, nI_1 t, by omega, ⟨g2, by show W = _; rw [eW, eZ, sA_sA]⟩, fun y z => w1 y (l1 y z), fun y z => ?_, ?_⟩
        · exact w3 (fun y => TC E c k y) l2 (fun i y d hi e => TC_t hi d ⟨0, e⟩) y z
        · by_cases cls : ∀ i y, LD c Z i → E i y → LD c Z y
          · refine Or.inl (fun i y a e => ?_)
            have a' : LD c Z i := w3 (LD c Z) (fun y z => z) (fun i y d _ e => cls i y d e) i a
            exact w1 y (cls i y a' e)
          · have l4 : t + 1 ≤ cn (LD c Z) c := by
              rcases l3 with l3 | l3
              · exact absurd l3 cls
              · exact l3
            refine Or.inr (Nat.le_trans (by omega) (cn_more (P := LD c Z) (fun y _ z => w1 y z) (Classical.byContradiction (fun no => cls (fun i y a e => ?_)))))
            have b := w2 i y a e
            exact Classical.byContradiction (fun z => no ⟨y, b.1, b, z⟩)
    · have yc := ((h3 k hk).2.2.2 y q).1
      exact ⟨yc, (b32 y yc).mpr q⟩
    · by_cases z : 1 ≤ cn (LD c B) c
      · exact Or.inr z
      · refine Or.inl (fun i y a e => ?_)
        have := cn_lt (P := LD c B) a.1 a
        exact absurd this (by omega)
