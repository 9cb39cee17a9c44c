/-! how many sources are not known -/
def SR (S0 : SS) (i : Nat) : Prop := gA S0 4 i = 0 ∨ gA S0 4 i = 3
def fr (S0 : SS) (f : Nat → Int32) (i : Nat) : Prop := SR S0 i ∧ ¬ f i < 2
noncomputable def nf (S0 : SS) (f : Nat → Int32) (c : Nat) : Nat := cn (fr S0 f) c
theorem SR_G {b c : Nat} {E : Nat → Nat → Prop} {M : Nat → Nat} {S0 Y : SS} (h : CE b c E M S0 Y) {i : Nat} (hi : i < c) : SR S0 i ↔ ¬ GBn S0 i := by
  obtain ⟨_, k, _⟩ := h.2.1 i hi
  unfold SR GBn
  rcases k with k | k | k | k <;> rw [k] <;> decide
theorem e_isSource {S0 : SS} {c i : Nat} (hc : c ≤ 60) (h0 : gI S0 0 = nI c) (hi : i < c) : (SR S0 i ∧ f_X0_isSource S0 (nI i) = some 1) ∨ (¬ SR S0 i ∧ f_X0_isSource S0 (nI i) = some 0) := by
  have a0 := e_isKindI hc h0 hi 0
  have a3 := e_isKindI hc h0 hi 3
  by_cases k0 : gA S0 4 i = 0
  · rw [if_pos k0] at a0
    exact Or.inl ⟨Or.inl k0, E_B a0 (E_n ne10 rfl)⟩
  · rw [if_neg k0] at a0
    by_cases k3 : gA S0 4 i = 3
    · rw [if_pos k3] at a3
      exact Or.inl ⟨Or.inr k3, E_B a0 (E_y rfl (E_B a3 (E_n ne10 rfl)))⟩
    · rw [if_neg k3] at a3
      refine Or.inr ⟨fun q => ?_, E_B a0 (E_y rfl (E_B a3 (E_y rfl rfl)))⟩
      rcases q with q | q
      · exact k0 q
      · exact k3 q
theorem p_countFree {S0 S6 : SS} {c : Nat} (hc : c ≤ 60) (h0 : gI S0 0 = nI c) : Pc (f_X6_countFree S6 S0) (fun r => r = nI (nf S0 (gA S6 5) c)) := by
  refine Pc_I (fun v : Int32 × Int32 => ∃ k, v.2 = nI k ∧ k ≤ c ∧ v.1 = nI (nf S0 (gA S6 5) k)) (fun v hv => ?_) _ ⟨0, rfl, Nat.zero_le _, rfl⟩
  obtain ⟨w, v⟩ := v
  obtain ⟨k, ev, hk, ew⟩ : ∃ k, v = nI k ∧ k ≤ c ∧ w = nI (nf S0 (gA S6 5) k) := hv
  subst ev
  subst ew
  refine Pc_c (fun q => Pc_s ?_) (fun q => ?_)
  · rw [h0, nI_leI (by omega) (by omega)] at q
    have : k = c := by omega
    rw [this]
    exact rfl
  · rw [h0, nI_leI (by omega) (by omega)] at q
    have no : ¬ fr S0 (gA S6 5) k → nf S0 (gA S6 5) (k + 1) = nf S0 (gA S6 5) k := fun u => cn_n (P := fr S0 (gA S6 5)) u
    rcases e_isSource hc h0 (i := k) (by omega) with ⟨s, e⟩ | ⟨s, e⟩
    · refine Pc_e e (Pc_c (fun z => absurd z ne10) (fun _ => Pc_G (fun _ => ?_)))
      rw [nI_clamp (by omega)]
      refine Pc_c (fun z => Pc_l (Pc_s ⟨k + 1, nI_1 k, by omega, ?_⟩)) (fun z => Pc_l (Pc_l (Pc_s ⟨k + 1, nI_1 k, by omega, ?_⟩)))
      · rw [no (fun u => u.2 z)]
      · unfold nf
        rw [cn_y (P := fr S0 (gA S6 5)) ⟨s, z⟩]
        exact nI_1 _
    · refine Pc_e e (Pc_c (fun _ => Pc_l (Pc_s ⟨k + 1, nI_1 k, by omega, ?_⟩)) (fun z => absurd rfl z))
      rw [no (fun u => s u.1)]
theorem le2 {v : Int32} : (2 : Int32) ≤ v ↔ ¬ v < 2 := by
  rw [ti_lt, ti_le]
  omega
/-- the reference has found them, each at its place -/
def FD (S0 : SS) (f : Nat → Int32) (k : Nat) (T : SS) : Prop := gI T 39 = nI (nf S0 f k) ∧ ∀ j, j < k → fr S0 f j → gA T 38 (nf S0 f j) = nI j
theorem p_find7 {b c : Nat} {E : Nat → Nat → Prop} {M : Nat → Nat} {S0 S7 : SS} (h : CE b c E M S0 S7) : Pc (f_X7_find S7) (FD S0 (gA S7 33) c) := by
  obtain ⟨hc, hb, h0, h29, h30⟩ := h.1
  refine Pc_L (fun A eA => ?_)
  have hA : CE b c E M S0 A := by
    rw [eA]
    exact CE_f h ⟨gI_ne (by decide), gI_ne (by decide)⟩ (fun k _ => rfl) rfl
  have a33 : gA A 33 = gA S7 33 := by rw [eA]; rfl
  refine Pc_I (fun v : Int32 × SS => ∃ k, v.1 = nI k ∧ k ≤ c ∧ CE b c E M S0 v.2 ∧ gA v.2 33 = gA S7 33 ∧ FD S0 (gA S7 33) k v.2) (fun v hv => ?_) _ ⟨0, rfl, Nat.zero_le _, hA, a33, by rw [eA]; exact gI_eq, fun j q => absurd q (Nat.not_lt_zero _)⟩
  obtain ⟨v, T⟩ := v
  obtain ⟨k, ev, hk, hT, t33, f1, f2⟩ : ∃ k, v = nI k ∧ k ≤ c ∧ CE b c E M S0 T ∧ gA T 33 = gA S7 33 ∧ FD S0 (gA S7 33) k T := hv
  subst ev
  obtain ⟨_, _, _, t29, t30⟩ := hT.1
  refine Pc_c (fun q => Pc_s ?_) (fun q => ?_)
  · rw [t29, nI_leI (by omega) (by omega)] at q
    have : k = c := by omega
    rw [this] at f1 f2
    exact ⟨f1, f2⟩
  · rw [t29, nI_leI (by omega) (by omega)] at q
    have kc : k < c := by omega
    have nk : nf S0 (gA S7 33) k ≤ k := cn_le k
    have skip : ¬ fr S0 (gA S7 33) k → Pc (zL (nI k + 1) (fun v28 => some (Sum.inl (v28, T)))) (PcI (fun v : Int32 × SS => ∃ k, v.1 = nI k ∧ k ≤ c ∧ CE b c E M S0 v.2 ∧ gA v.2 33 = gA S7 33 ∧ FD S0 (gA S7 33) k v.2) (FD S0 (gA S7 33) c)) := fun u => by
      have e : nf S0 (gA S7 33) (k + 1) = nf S0 (gA S7 33) k := cn_n (P := fr S0 (gA S7 33)) u
      refine Pc_l (Pc_s ⟨k + 1, nI_1 k, by omega, hT, t33, by rw [e]; exact f1, fun j hj fj => ?_⟩)
      rcases Nat.lt_or_ge j k with t | t
      · exact f2 j t fj
      · have : j = k := by omega
        rw [this] at fj
        exact absurd fj u
    have take : fr S0 (gA S7 33) k → Pc (zG (vp_in (gI T 39) 60) (
        zL (sA T 38 (upd (gA T 38) (gI T 39).toNatClampNeg (nI k))) (fun s7_24 =>
        zL (sI s7_24 39 ((gI s7_24 39) + (1 : Int32))) (fun s7_26 =>
        zL (nI k + 1) (fun v27 =>
        some (Sum.inl (v27, s7_26))))))) (PcI (fun v : Int32 × SS => ∃ k, v.1 = nI k ∧ k ≤ c ∧ CE b c E M S0 v.2 ∧ gA v.2 33 = gA S7 33 ∧ FD S0 (gA S7 33) k v.2) (FD S0 (gA S7 33) c)) := fun u => by
      have e : nf S0 (gA S7 33) (k + 1) = nf S0 (gA S7 33) k + 1 := cn_y (P := fr S0 (gA S7 33)) u
      refine Pc_G (fun _ => Pc_L (fun B eB => Pc_L (fun D eD => Pc_l (Pc_s ⟨k + 1, nI_1 k, by omega, ?_, ?_, ?_, fun j hj fj => ?_⟩))))
      · show CE b c E M S0 D
        rw [eD]
        refine CE_f (Y := B) (by rw [eB]; exact CE_sA hT (by decide) _) ⟨gI_ne (by decide), gI_ne (by decide)⟩ (fun k _ => rfl) rfl
      · show gA D 33 = _
        rw [eD, gA_sI, eB, gA_ne (by decide)]
        exact t33
      · show gI D 39 = _
        rw [eD, gI_eq, eB, gI_sA, f1, e]
        exact nI_1 _
      · show gA D 38 _ = _
        rw [eD, gA_sI, eB, gA_eq, f1, nI_clamp (by omega)]
        rcases Nat.lt_or_ge j k with t | t
        · have lt : nf S0 (gA S7 33) j < nf S0 (gA S7 33) k := cn_lt (P := fr S0 (gA S7 33)) t fj
          rw [pk_un (by omega)]
          exact f2 j t fj
        · have : j = k := by omega
          rw [this, pk_us]
    refine Pc_e (e_kind7 hT kc) (Pc_c (fun k0 => Pc_G (fun _ => ?_)) (fun k0 => Pc_e (e_kind7 hT kc) (Pc_c (fun k3 => Pc_G (fun _ => ?_)) (fun k3 => skip (fun u => ?_)))))
    · rw [nI_clamp (by omega), t33]
      exact Pc_i le2 (fun z => take ⟨Or.inl k0, z⟩) (fun z => skip (fun u => z u.2))
    · rw [nI_clamp (by omega), t33]
      exact Pc_i le2 (fun z => take ⟨Or.inr k3, z⟩) (fun z => skip (fun u => z u.2))
    · rcases u.1 with w | w
      · exact k0 w
      · exact k3 w
theorem VAL_src {b c : Nat} {E : Nat → Nat → Prop} {M : Nat → Nat} {S0 S6 S7 : SS} (h : CE b c E M S0 S7) (va : VAL S0 S6 S7) {i : Nat} (hi : i < c) (u : ¬ GBn S0 i) : gA S6 5 i = gA S7 33 i := by
  have hi : i < cN S0 := by rw [CE_cN h]; exact hi
  rw [(va.1 i hi).1, va.2.1 i hi u]
theorem nf_eq {b c : Nat} {E : Nat → Nat → Prop} {M : Nat → Nat} {S0 S6 S7 : SS} (h : CE b c E M S0 S7) (va : VAL S0 S6 S7) {n : Nat} (hn : n ≤ c) : nf S0 (gA S6 5) n = nf S0 (gA S7 33) n := cn_c (fun i hi => by
  unfold fr
  constructor
  · rintro ⟨a, b⟩
    rw [VAL_src h va (by omega) ((SR_G h (by omega)).mp a)] at b
    exact ⟨a, b⟩
  · rintro ⟨a, b⟩
    rw [← VAL_src h va (by omega) ((SR_G h (by omega)).mp a)] at b
    exact ⟨a, b⟩)
theorem q_worlds {b c : Nat} {E : Nat → Nat → Prop} {M : Nat → Nat} {S0 S6 S7 D : SS} (h : CE b c E M S0 S7) (va : VAL S0 S6 S7) {rx rm : Int32} (ex : f_X6_worlds S6 S0 = some rx) (em : f_X7_worlds S7 = some (rm, D)) : rx = rm := by
  obtain ⟨hc, _, h0, _⟩ := h.1
  obtain ⟨n, e1, ex⟩ := zB_spec ex
  obtain ⟨T, e2, em⟩ := zB_spec em
  have a1 : n = nI (nf S0 (gA S6 5) c) := p_countFree hc h0 _ e1
  have a2 := (p_find7 h _ e2).1
  rw [← nf_eq h va (Nat.le_refl _), ← a1] at a2
  rw [a2] at em
  by_cases q : n ≤ 12
  · rw [if_pos q] at ex em
    cases ex
    cases em
    rfl
  · rw [if_neg q] at ex em
    cases ex
    cases em
    rfl
/-! flicker -/
def FLR (P : Nat → Prop) (c L : Nat) (r : Int32) : Prop := (r = -1 ∧ cn P c ≤ L) ∨ ∃ i, i < c ∧ r = nI i ∧ P i ∧ cn P i = L
theorem FLR_u {P Q : Nat → Prop} {c L : Nat} {r s : Int32} (hc : ∀ i, i < c → (P i ↔ Q i)) (h : FLR P c L r) (g : FLR Q c L s) : r = s := by
  have e : ∀ i, i ≤ c → cn P i = cn Q i := fun i hi => cn_c (fun j hj => hc j (by omega))
  rcases h with ⟨h1, h2⟩ | ⟨i, i1, i2, i3, i4⟩
  · rcases g with ⟨g1, g2⟩ | ⟨j, j1, j2, j3, j4⟩
    · rw [h1, g1]
    · have := cn_lt (P := Q) j1 j3
      rw [← e c (Nat.le_refl _)] at this
      omega
  · rcases g with ⟨g1, g2⟩ | ⟨j, j1, j2, j3, j4⟩
    · have := cn_lt (P := P) i1 i3
      rw [e c (Nat.le_refl _)] at this
      omega
    · rw [i2, j2]
      refine congrArg nI ?_
      rw [← e j (by omega)] at j4
      rcases Nat.lt_trichotomy i j with t | t | t
      · have := cn_lt (P := P) t i3
        omega
      · exact t
      · have := cn_lt (P := P) t ((hc j (by omega)).mpr j3)
        omega
theorem p_flk6 {S0 T : SS} {c L : Nat} (hc : c ≤ 60) (h0 : gI S0 0 = nI c) (hL : L < 2 ^ 31) : Pc (zI (b_X6_flicker_60 S0 T) zF (nI L, (0 : Int32))) (fun w => FLR (fun i => ¬ 2 ≤ gA T 5 i ∧ gA T 6 i = gA T 5 i ∧ gA T 7 i = 2) c L w.1) := by
  refine Pc_I (fun v : Int32 × Int32 => ∃ k, v.2 = nI k ∧ k ≤ c ∧ cn (fun i => ¬ 2 ≤ gA T 5 i ∧ gA T 6 i = gA T 5 i ∧ gA T 7 i = 2) k ≤ L ∧ v.1 = nI (L - cn (fun i => ¬ 2 ≤ gA T 5 i ∧ gA T 6 i = gA T 5 i ∧ gA T 7 i = 2) k)) (fun v hv => ?_) _ ⟨0, rfl, Nat.zero_le _, Nat.zero_le _, rfl⟩
  obtain ⟨w, v⟩ := v
  obtain ⟨k, ev, hk, hl, ew⟩ : ∃ k, v = nI k ∧ k ≤ c ∧ cn (fun i => ¬ 2 ≤ gA T 5 i ∧ gA T 6 i = gA T 5 i ∧ gA T 7 i = 2) k ≤ L ∧ w = nI (L - cn (fun i => ¬ 2 ≤ gA T 5 i ∧ gA T 6 i = gA T 5 i ∧ gA T 7 i = 2) k) := hv
  subst ev
  subst ew
  refine Pc_c (fun q => Pc_s ?_) (fun q => Pc_G (fun _ => ?_))
  · rw [h0, nI_leI (by omega) (by omega)] at q
    have : k = c := by omega
    rw [this] at hl
    exact Or.inl ⟨rfl, hl⟩
  · rw [h0, nI_leI (by omega) (by omega)] at q
    rw [nI_clamp (by omega)]
    have nx : ¬ (¬ 2 ≤ gA T 5 k ∧ gA T 6 k = gA T 5 k ∧ gA T 7 k = 2) → cn (fun i => ¬ 2 ≤ gA T 5 i ∧ gA T 6 i = gA T 5 i ∧ gA T 7 i = 2) (k + 1) = cn (fun i => ¬ 2 ≤ gA T 5 i ∧ gA T 6 i = gA T 5 i ∧ gA T 7 i = 2) k := fun u => cn_n (P := fun i => ¬ 2 ≤ gA T 5 i ∧ gA T 6 i = gA T 5 i ∧ gA T 7 i = 2) u
    refine Pc_c (fun z => Pc_l (Pc_s ⟨k + 1, nI_1 k, by omega, ?_, ?_⟩)) (fun z => Pc_c (fun y => Pc_c (fun x => Pc_c (fun u => Pc_s ?_) (fun u => Pc_l (Pc_l (Pc_s ⟨k + 1, nI_1 k, by omega, ?_, ?_⟩)))) (fun x => Pc_l (Pc_s ⟨k + 1, nI_1 k, by omega, ?_, ?_⟩))) (fun y => Pc_l (Pc_s ⟨k + 1, nI_1 k, by omega, ?_, ?_⟩)))
    · rw [nx (fun u => u.1 z)]; exact hl
    · rw [nx (fun u => u.1 z)]
    · refine Or.inr ⟨k, by omega, rfl, ⟨z, y, x⟩, ?_⟩
      have u : nI (L - cn (fun i => ¬ 2 ≤ gA T 5 i ∧ gA T 6 i = gA T 5 i ∧ gA T 7 i = 2) k) = nI 0 := u
      have := (nI_eq (by omega) (by omega)).mp u
      omega
    · have ne : L - cn (fun i => ¬ 2 ≤ gA T 5 i ∧ gA T 6 i = gA T 5 i ∧ gA T 7 i = 2) k ≠ 0 := fun q => u (by rw [q]; rfl)
      rw [cn_y (P := fun i => ¬ 2 ≤ gA T 5 i ∧ gA T 6 i = gA T 5 i ∧ gA T 7 i = 2) ⟨z, y, x⟩]
      omega
    · have ne : L - cn (fun i => ¬ 2 ≤ gA T 5 i ∧ gA T 6 i = gA T 5 i ∧ gA T 7 i = 2) k ≠ 0 := fun q => u (by rw [q]; rfl)
      rw [cn_y (P := fun i => ¬ 2 ≤ gA T 5 i ∧ gA T 6 i = gA T 5 i ∧ gA T 7 i = 2) ⟨z, y, x⟩]
      show nI _ + Int32.ofInt (-1) = _
      rw [show L - cn (fun i => ¬ 2 ≤ gA T 5 i ∧ gA T 6 i = gA T 5 i ∧ gA T 7 i = 2) k = (L - (cn (fun i => ¬ 2 ≤ gA T 5 i ∧ gA T 6 i = gA T 5 i ∧ gA T 7 i = 2) k + 1)) + 1 by omega]
      exact pk_m1 _
    · rw [nx (fun u => x u.2.2)]; exact hl
    · rw [nx (fun u => x u.2.2)]
    · rw [nx (fun u => y u.2.1)]; exact hl
    · rw [nx (fun u => y u.2.1)]
theorem p_flk7 {T : SS} {c L : Nat} (hc : c ≤ 60) (h29 : gI T 29 = nI c) (hL : L < 2 ^ 31) : Pc (zI (b_X7_flicker_114 T) zF (nI L, (0 : Int32))) (fun w => FLR (fun i => ¬ 1 < gA T 34 i ∧ gA T 34 i = gA T 36 i ∧ gA T 37 i = 2) c L w.1) := by
  refine Pc_I (fun v : Int32 × Int32 => ∃ k, v.2 = nI k ∧ k ≤ c ∧ cn (fun i => ¬ 1 < gA T 34 i ∧ gA T 34 i = gA T 36 i ∧ gA T 37 i = 2) k ≤ L ∧ v.1 = nI (L - cn (fun i => ¬ 1 < gA T 34 i ∧ gA T 34 i = gA T 36 i ∧ gA T 37 i = 2) k)) (fun v hv => ?_) _ ⟨0, rfl, Nat.zero_le _, Nat.zero_le _, rfl⟩
  obtain ⟨w, v⟩ := v
  obtain ⟨k, ev, hk, hl, ew⟩ : ∃ k, v = nI k ∧ k ≤ c ∧ cn (fun i => ¬ 1 < gA T 34 i ∧ gA T 34 i = gA T 36 i ∧ gA T 37 i = 2) k ≤ L ∧ w = nI (L - cn (fun i => ¬ 1 < gA T 34 i ∧ gA T 34 i = gA T 36 i ∧ gA T 37 i = 2) k) := hv
  subst ev
  subst ew
  refine Pc_c (fun q => Pc_s ?_) (fun q => Pc_G (fun _ => ?_))
  · rw [h29, nI_leI (by omega) (by omega)] at q
    have : k = c := by omega
    rw [this] at hl
    exact Or.inl ⟨rfl, hl⟩
  · rw [h29, nI_leI (by omega) (by omega)] at q
    rw [nI_clamp (by omega)]
    have nx : ¬ (¬ 1 < gA T 34 k ∧ gA T 34 k = gA T 36 k ∧ gA T 37 k = 2) → cn (fun i => ¬ 1 < gA T 34 i ∧ gA T 34 i = gA T 36 i ∧ gA T 37 i = 2) (k + 1) = cn (fun i => ¬ 1 < gA T 34 i ∧ gA T 34 i = gA T 36 i ∧ gA T 37 i = 2) k := fun u => cn_n (P := fun i => ¬ 1 < gA T 34 i ∧ gA T 34 i = gA T 36 i ∧ gA T 37 i = 2) u
    refine Pc_c (fun z => Pc_l (Pc_s ⟨k + 1, nI_1 k, by omega, ?_, ?_⟩)) (fun z => Pc_c (fun y => Pc_c (fun x => Pc_c (fun u => Pc_s ?_) (fun u => Pc_l (Pc_l (Pc_s ⟨k + 1, nI_1 k, by omega, ?_, ?_⟩)))) (fun x => Pc_l (Pc_s ⟨k + 1, nI_1 k, by omega, ?_, ?_⟩))) (fun y => Pc_l (Pc_s ⟨k + 1, nI_1 k, by omega, ?_, ?_⟩)))
    · rw [nx (fun u => u.1 z)]; exact hl
    · rw [nx (fun u => u.1 z)]
    · refine Or.inr ⟨k, by omega, rfl, ⟨z, y, x⟩, ?_⟩
      have u : nI (L - cn (fun i => ¬ 1 < gA T 34 i ∧ gA T 34 i = gA T 36 i ∧ gA T 37 i = 2) k) = nI 0 := u
      have := (nI_eq (by omega) (by omega)).mp u
      omega
    · have ne : L - cn (fun i => ¬ 1 < gA T 34 i ∧ gA T 34 i = gA T 36 i ∧ gA T 37 i = 2) k ≠ 0 := fun q => u (by rw [q]; rfl)
      rw [cn_y (P := fun i => ¬ 1 < gA T 34 i ∧ gA T 34 i = gA T 36 i ∧ gA T 37 i = 2) ⟨z, y, x⟩]
      omega
    · have ne : L - cn (fun i => ¬ 1 < gA T 34 i ∧ gA T 34 i = gA T 36 i ∧ gA T 37 i = 2) k ≠ 0 := fun q => u (by rw [q]; rfl)
      rw [cn_y (P := fun i => ¬ 1 < gA T 34 i ∧ gA T 34 i = gA T 36 i ∧ gA T 37 i = 2) ⟨z, y, x⟩]
      show nI _ + Int32.ofInt (-1) = _
      rw [show L - cn (fun i => ¬ 1 < gA T 34 i ∧ gA T 34 i = gA T 36 i ∧ gA T 37 i = 2) k = (L - (cn (fun i => ¬ 1 < gA T 34 i ∧ gA T 34 i = gA T 36 i ∧ gA T 37 i = 2) k + 1)) + 1 by omega]
      exact pk_m1 _
    · rw [nx (fun u => x u.2.2)]; exact hl
    · rw [nx (fun u => x u.2.2)]
    · rw [nx (fun u => y u.2.1)]; exact hl
    · rw [nx (fun u => y u.2.1)]
theorem p_with6 {b c : Nat} {E : Nat → Nat → Prop} {M : Nat → Nat} {S0 Y S6 : SS} (h : CE b c E M S0 Y) {i : Nat} (hi : i < c) (v : Int32) : Pc (f_X6_settleWith6 S6 S0 (nI i) v) (fun T => SOL c S0 (upd (gA S6 5) i v) (gA T 6) ∧ gA T 5 = gA S6 5 ∧ gA T 7 = gA S6 7) := by
  have hc := h.1.1
  refine Pc_L (fun A eA => Pc_G (fun _ => Pc_L (fun B eB => Pc_B (p_settle6 h (gA B 6)) (fun g hg => Pc_L (fun T eT => Pc_s ⟨?_, ?_, ?_⟩)))))
  · rw [eT, gA_eq]
    intro j hj
    refine ⟨(hg j hj).1, fun u => ((hg j hj).2 u).trans ?_⟩
    rw [eB, gA_eq, nI_clamp (by omega)]
    by_cases e : j = i
    · rw [e, pk_us, pk_us]
    · rw [pk_un e, pk_un e, eA, gA_eq, pk_cpy_in (by show (0 : Int32).toNatClampNeg ≤ j; exact Nat.zero_le _) (by show j < 0 + 60; omega)]
      show gA S6 5 (0 + (j - 0)) = _
      rw [Nat.zero_add, Nat.sub_zero]
  · rw [eT, gA_ne (by decide), eB, gA_ne (by decide), eA, gA_ne (by decide)]
  · rw [eT, gA_ne (by decide), eB, gA_ne (by decide), eA, gA_ne (by decide)]
theorem p_with7 {b c : Nat} {E : Nat → Nat → Prop} {M : Nat → Nat} {S0 Y S6 : SS} (h : CE b c E M S0 Y) {i : Nat} (hi : i < c) (v : Int32) : Pc (f_X6_settleWith7 S6 S0 (nI i) v) (fun T => SOL c S0 (upd (gA S6 5) i v) (gA T 7) ∧ gA T 5 = gA S6 5 ∧ gA T 6 = gA S6 6) := by
  have hc := h.1.1
  refine Pc_L (fun A eA => Pc_G (fun _ => Pc_L (fun B eB => Pc_B (p_settle6 h (gA B 7)) (fun g hg => Pc_L (fun T eT => Pc_s ⟨?_, ?_, ?_⟩)))))
  · rw [eT, gA_eq]
    intro j hj
    refine ⟨(hg j hj).1, fun u => ((hg j hj).2 u).trans ?_⟩
    rw [eB, gA_eq, nI_clamp (by omega)]
    by_cases e : j = i
    · rw [e, pk_us, pk_us]
    · rw [pk_un e, pk_un e, eA, gA_eq, pk_cpy_in (by show (0 : Int32).toNatClampNeg ≤ j; exact Nat.zero_le _) (by show j < 0 + 60; omega)]
      show gA S6 5 (0 + (j - 0)) = _
      rw [Nat.zero_add, Nat.sub_zero]
  · rw [eT, gA_ne (by decide), eB, gA_ne (by decide), eA, gA_ne (by decide)]
  · rw [eT, gA_ne (by decide), eB, gA_ne (by decide), eA, gA_ne (by decide)]
theorem lt1 {v : Int32} : (1 : Int32) < v ↔ ¬ v < 2 := by
  rw [ti_lt, ti_lt]
  have t1 : (1 : Int32).toInt = 1 := by decide
  have t2 : (2 : Int32).toInt = 2 := by decide
  omega
theorem VQ_1m {v : Int32} (h : VQ v) (h2 : v < 2) : VQ (1 - v) := by
  rcases (VQ_2 h).mp h2 with q | q <;> rw [q]
  · exact Or.inr (Or.inl (by decide))
  · exact Or.inl (by decide)
theorem q_flicker {b c : Nat} {E : Nat → Nat → Prop} {M : Nat → Nat} {S0 S6 S7 A D : SS} (h : CE b c E M S0 S7) (va : VAL S0 S6 S7) {p1 p2 rx rm : Int32} (ex : f_X6_flicker S6 S0 p1 p2 = some (rx, A)) (em : f_X7_flicker S7 p1 p2 = some (rm, D)) : rx = rm := by
  obtain ⟨hc, hb, h0, h29, h30⟩ := h.1
  have no : (∃ U, f_X6_flicker S6 S0 p1 p2 = some (-1, U)) → (∃ V, f_X7_flicker S7 p1 p2 = some (-1, V)) → rx = rm := fun ⟨U, e6⟩ ⟨V, e7⟩ => by
    rw [ex] at e6
    rw [em] at e7
    cases e6
    cases e7
    rfl
  have out : p1 < 0 ∨ nI c ≤ p1 → rx = rm := fun q => no ⟨_, E_B (e_isKindO h0 q 0) (E_y rfl rfl)⟩ ⟨_, E_B (e_hasO h29 q) (E_y rfl rfl)⟩
  rcases pk_ix p1 (n := c) (by omega) with q | q | ⟨i, hi, e⟩
  · exact out (Or.inl q)
  · exact out (Or.inr q)
  subst e
  have k6 := e_isKindI hc h0 hi 0
  have k7 := e_kind7 h hi
  by_cases k : gA S0 4 i = 0
  · rw [if_pos k] at k6
    rw [k] at k7
    have ng : ¬ GBn S0 i := fun u => by
      rcases u with u | u <;> rw [k] at u <;> exact absurd u (by decide)
    have ev := VAL_src h va hi ng
    have cl : (nI i).toNatClampNeg = i := nI_clamp (by omega)
    by_cases z : gA S6 5 i < 2
    · by_cases y : (0 : Int32) ≤ p2
      · have e6 : f_X6_flicker S6 S0 (nI i) p2 = zB (f_X6_settleWith6 S6 S0 (nI i) ((1 : Int32) - gA S6 5 i)) (fun (s6_9 : SS) => zB (f_X6_settleWith7 s6_9 S0 (nI i) (2 : Int32)) (fun (s6_13 : SS) => zI (b_X6_flicker_60 S0 s6_13) zF (p2, (0 : Int32)))) := E_B k6 (E_n ne10 (E_G (in60 (by omega)) (E_n (by rw [cl, le2]; exact fun u => u z) (E_y y (by rw [cl])))))
        have e7 : f_X7_flicker S7 (nI i) p2 = zB (zI (b_X7_flicker_34) zF ((0 : Int32), S7)) (fun (s7_23 : SS) =>
            zL (sA s7_23 36 (upd (gA s7_23 36) (nI i).toNatClampNeg ((1 : Int32) - (gA s7_23 33 (nI i).toNatClampNeg)))) (fun s7_25 =>
            zL (sA s7_25 37 (upd (gA s7_25 37) (nI i).toNatClampNeg (2 : Int32))) (fun s7_27 =>
            zB (f_X7_follow s7_27 36) (fun (s7_28 : SS) =>
            zB (f_X7_follow s7_28 37) (fun (s7_32 : SS) =>
            zI (b_X7_flicker_114 s7_32) zF (p2, (0 : Int32))))))) := E_B (e_hasI hc h29 hi) (E_n ne10 (E_B k7 (E_y rfl (E_G (in60 (by omega)) (E_n (by rw [cl, ← ev, lt1]; exact fun u => u z) (E_y y rfl))))))
        rw [ex] at e6
        rw [em] at e7
        obtain ⟨L, hL, eL⟩ : ∃ L : Nat, L < 2 ^ 31 ∧ p2 = nI L := nI_of (by
          rw [ti_lt]
          rw [ti_le] at y
          omega)
        subst eL
        -- the class
        obtain ⟨T1, t1, e6⟩ := zB_spec e6.symm
        obtain ⟨T2, t2, e6⟩ := zB_spec e6
        obtain ⟨s1, s2, s3⟩ := p_with6 h hi _ _ t1
        obtain ⟨u1, u2, u3⟩ := p_with7 h hi _ _ t2
        have f6 := p_flk6 hc h0 hL _ e6
        rw [s2] at u1 u2
        -- the reference
        obtain ⟨W, w1, e7⟩ := zB_spec e7.symm
        obtain ⟨W1, rfl, e7⟩ := zL_spec e7
        obtain ⟨W2, eW2, e7⟩ := zL_spec e7
        obtain ⟨W3, w3, e7⟩ := zB_spec e7
        obtain ⟨W4, w4, e7⟩ := zB_spec e7
        have cp : CE b c E M S0 W ∧ gA W 33 = gA S7 33 ∧ gA W 34 = gA S7 34 ∧ ∀ j, j < c → gA W 36 j = gA S7 33 j ∧ gA W 37 j = gA S7 33 j := by
          refine Pc_I (fun v : Int32 × SS => ∃ k, v.1 = nI k ∧ k ≤ c ∧ CE b c E M S0 v.2 ∧ gA v.2 33 = gA S7 33 ∧ gA v.2 34 = gA S7 34 ∧ ∀ j, j < k → gA v.2 36 j = gA S7 33 j ∧ gA v.2 37 j = gA S7 33 j) (Q := fun W => CE b c E M S0 W ∧ gA W 33 = gA S7 33 ∧ gA W 34 = gA S7 34 ∧ ∀ j, j < c → gA W 36 j = gA S7 33 j ∧ gA W 37 j = gA S7 33 j) (fun v hv => ?_) _ ⟨0, rfl, Nat.zero_le _, h, rfl, rfl, fun j q => absurd q (Nat.not_lt_zero _)⟩ W w1
          obtain ⟨v, V⟩ := v
          obtain ⟨k, ek, hk, hV, v33, v34, hh⟩ : ∃ k, v = nI k ∧ k ≤ c ∧ CE b c E M S0 V ∧ gA V 33 = gA S7 33 ∧ gA V 34 = gA S7 34 ∧ ∀ j, j < k → gA V 36 j = gA S7 33 j ∧ gA V 37 j = gA S7 33 j := hv
          subst ek
          obtain ⟨_, _, _, v29, _⟩ := hV.1
          refine Pc_c (fun q => Pc_s ⟨hV, v33, v34, fun j hj => hh j ?_⟩) (fun q => Pc_G (fun _ => Pc_L (fun P eP => Pc_L (fun Q eQ => Pc_l (Pc_s ⟨k + 1, nI_1 k, ?_, ?_, ?_, ?_, fun j hj => ?_⟩)))))
          · rw [v29, nI_leI (by omega) (by omega)] at q
            omega
          · rw [v29, nI_leI (by omega) (by omega)] at q
            omega
          · show CE b c E M S0 Q
            rw [eQ, eP]
            exact CE_sA (CE_sA hV (by decide) _) (by decide) _
          · show gA Q 33 = _
            rw [eQ, gA_ne (by decide), eP, gA_ne (by decide)]
            exact v33
          · show gA Q 34 = _
            rw [eQ, gA_ne (by decide), eP, gA_ne (by decide)]
            exact v34
          · show gA Q 36 j = _ ∧ gA Q 37 j = _
            rw [eQ, gA_ne (by decide), gA_eq, eP, gA_eq, gA_ne (by decide), gA_ne (by decide), nI_clamp (by omega), v33]
            by_cases e : j = k
            · rw [e, pk_us, pk_us]
              exact ⟨rfl, rfl⟩
            · rw [pk_un e, pk_un e]
              exact hh j (by omega)
        obtain ⟨hW, w33, w34, wr⟩ := cp
        have hW2 : CE b c E M S0 W2 := by
          rw [eW2]
          exact CE_sA (CE_sA hW (by decide) _) (by decide) _
        have e36 : gA W2 36 = upd (gA W 36) i (1 - gA W 33 i) := by rw [eW2, gA_ne (by decide), gA_eq, cl]
        have e37 : gA W2 37 = upd (gA W 37) i 2 := by rw [eW2, gA_eq, gA_ne (by decide), cl]
        have e34 : gA W2 34 = gA S7 34 := by rw [eW2, gA_ne (by decide), gA_ne (by decide)]; exact w34
        have vq : ∀ j, j < c → VQ (gA S6 5 j) := fun j hj => (va.1 j (by rw [CE_cN h]; exact hj)).2
        have r36 : ∀ j, j < c → ¬ GBn S0 j → gA W2 36 j = upd (gA S6 5) i (1 - gA S6 5 i) j := fun j hj u => by
          rw [e36]
          by_cases e : j = i
          · rw [e, pk_us, pk_us, w33, ← ev]
          · rw [pk_un e, pk_un e, (wr j hj).1, VAL_src h va hj u]
        have r37 : ∀ j, j < c → ¬ GBn S0 j → gA W2 37 j = upd (gA S6 5) i 2 j := fun j hj u => by
          rw [e37]
          by_cases e : j = i
          · rw [e, pk_us, pk_us]
          · rw [pk_un e, pk_un e, (wr j hj).2, VAL_src h va hj u]
        have q36 : ∀ j, j < c → ¬ GBn S0 j → VQ (gA W2 36 j) := fun j hj u => by
          rw [r36 j hj u]
          by_cases e : j = i
          · rw [e, pk_us]
            exact VQ_1m (vq i hi) z
          · rw [pk_un e]
            exact vq j hj
        have q37 : ∀ j, j < c → ¬ GBn S0 j → VQ (gA W2 37 j) := fun j hj u => by
          rw [r37 j hj u]
          by_cases e : j = i
          · rw [e, pk_us]
            exact Or.inr (Or.inr (Or.inl rfl))
          · rw [pk_un e]
            exact vq j hj
        obtain ⟨g6, eg6, sg6⟩ := p_follow7 hW2 (q := 36) (by decide) q36 _ w3
        have hW3 : CE b c E M S0 W3 := by rw [eg6]; exact CE_sA hW2 (by decide) _
        have w337 : gA W3 37 = gA W2 37 := by rw [eg6, gA_ne (by decide)]
        obtain ⟨g7, eg7, sg7⟩ := p_follow7 hW3 (q := 37) (by decide) (fun j hj u => by rw [w337]; exact q37 j hj u) _ w4
        rw [w337] at sg7
        have f7 := p_flk7 (T := W4) hc (by rw [eg7, eg6]; exact hW2.1.2.2.2.1) hL _ e7
        have x36 : gA W4 36 = g6 := by rw [eg7, gA_ne (by decide), eg6, gA_eq]
        have x37 : gA W4 37 = g7 := by rw [eg7, gA_eq]
        have x34 : gA W4 34 = gA S7 34 := by rw [eg7, gA_ne (by decide), eg6, gA_ne (by decide)]; exact e34
        have a6 := SOL_u h s1 sg6 (fun j hj u => (r36 j hj u).symm)
        have a7 := SOL_u h u1 sg7 (fun j hj u => (r37 j hj u).symm)
        refine FLR_u (fun j hj => ?_) f6 f7
        show (¬ 2 ≤ gA T2 5 j ∧ gA T2 6 j = gA T2 5 j ∧ gA T2 7 j = 2) ↔ (¬ 1 < gA W4 34 j ∧ gA W4 34 j = gA W4 36 j ∧ gA W4 37 j = 2)
        rw [x34, x36, x37, u2, u3, a6 j hj, a7 j hj, (va.1 j (by rw [CE_cN h]; exact hj)).1, le2, lt1]
        exact ⟨fun ⟨a, b, c⟩ => ⟨a, b.symm, c⟩, fun ⟨a, b, c⟩ => ⟨a, b.symm, c⟩⟩
      · exact no ⟨_, E_B k6 (E_n ne10 (E_G (in60 (by omega)) (E_n (by rw [cl, le2]; exact fun u => u z) (E_n y rfl))))⟩ ⟨_, E_B (e_hasI hc h29 hi) (E_n ne10 (E_B k7 (E_y rfl (E_G (in60 (by omega)) (E_n (by rw [cl, ← ev, lt1]; exact fun u => u z) (E_n y rfl))))))⟩
    · exact no ⟨_, E_B k6 (E_n ne10 (E_G (in60 (by omega)) (E_y (by rw [cl, le2]; exact z) rfl)))⟩ ⟨_, E_B (e_hasI hc h29 hi) (E_n ne10 (E_B k7 (E_y rfl (E_G (in60 (by omega)) (E_y (by rw [cl, ← ev, lt1]; exact z) rfl)))))⟩
  · rw [if_neg k] at k6
    exact no ⟨_, E_B k6 (E_y rfl rfl)⟩ ⟨_, E_B (e_hasI hc h29 hi) (E_n ne10 (E_B k7 (E_n k rfl)))⟩
