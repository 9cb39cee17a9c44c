/-! the class goes through a block of 64 WORLDS -/
def bw (R : Nat → Int64) (w : Nat) : Nat → Bool := fun y => bL (R y) w
theorem p_followO {b c : Nat} {E : Nat → Nat → Prop} {M : Nat → Nat} {S0 Y S5 : SS} (h : CE b c E M S0 Y) : Pc (f_X5_followOthers S5 S0) (fun T => (∀ w, w < 64 → WSL c S0 (bw (gB S5 3) w) (bw (gB T 3) w) ∧ (bL (gL T 4) w = true ↔ bL (gL S5 4) w = true ∧ LGL c S0 (bw (gB T 3) w))) ∧ gI T 0 = gI S5 0 ∧ gL T 1 = gL S5 1 ∧ gL T 2 = gL S5 2) := by
  obtain ⟨hc, hb, h0, _⟩ := h.1
  obtain ⟨od, _, pl, _⟩ := h.2.2.2.2.2.1
  refine Pc_I (fun v : Int32 × SS => ∃ k, v.1 = nI k ∧ k ≤ c ∧ (∀ i, i < c → ¬ GBn S0 i → gB v.2 3 i = gB S5 3 i) ∧ (∀ k' i, k' < k → i < c → gA S0 12 k' = nI i → GBn S0 i → ∀ w, w < 64 → bw (gB v.2 3) w i = NV2 S0 (bw (gB v.2 3) w) i) ∧ (∀ w, w < 64 → (bL (gL v.2 4) w = true ↔ bL (gL S5 4) w = true ∧ ∀ k' i, k' < k → i < c → gA S0 12 k' = nI i → gA S0 4 i = 1 → ONE S0 (bw (gB v.2 3) w) i)) ∧ gI v.2 0 = gI S5 0 ∧ gL v.2 1 = gL S5 1 ∧ gL v.2 2 = gL S5 2) (fun v hv => ?_) _ ⟨0, rfl, Nat.zero_le _, fun _ _ _ => rfl, fun k' i q => absurd q (Nat.not_lt_zero _), fun w hw => ⟨fun q => ⟨q, fun k' i q => absurd q (Nat.not_lt_zero _)⟩, fun q => q.1⟩, rfl, rfl, rfl⟩
  obtain ⟨v, T⟩ := v
  obtain ⟨k, ev, hk, h1, h2, h3, t0, t1, t2⟩ : ∃ k, v = nI k ∧ k ≤ c ∧ (∀ i, i < c → ¬ GBn S0 i → gB T 3 i = gB S5 3 i) ∧ (∀ k' i, k' < k → i < c → gA S0 12 k' = nI i → GBn S0 i → ∀ w, w < 64 → bw (gB T 3) w i = NV2 S0 (bw (gB T 3) w) i) ∧ (∀ w, w < 64 → (bL (gL T 4) w = true ↔ bL (gL S5 4) w = true ∧ ∀ k' i, k' < k → i < c → gA S0 12 k' = nI i → gA S0 4 i = 1 → ONE S0 (bw (gB T 3) w) i)) ∧ gI T 0 = gI S5 0 ∧ gL T 1 = gL S5 1 ∧ gL T 2 = gL S5 2 := hv
  subst ev
  refine Pc_c (fun q => Pc_s ⟨fun w hw => ⟨fun i hi => ?_, ?_⟩, t0, t1, t2⟩) (fun q => Pc_G (fun _ => ?_))
  · rw [h0, nI_leI (by omega) (by omega)] at q
    obtain ⟨k', k1, k2⟩ := pl i hi
    refine ⟨fun u => h2 k' i (by omega) hi k2 u w hw, fun u => ?_⟩
    show bL (gB T 3 i) w = bL (gB S5 3 i) w
    rw [h1 i hi u]
  · rw [h0, nI_leI (by omega) (by omega)] at q
    rw [h3 w hw]
    constructor
    · rintro ⟨a, d⟩
      refine ⟨a, fun i hi ki => ?_⟩
      obtain ⟨k', k1, k2⟩ := pl i hi
      exact d k' i (by omega) hi k2 ki
    · rintro ⟨a, d⟩
      exact ⟨a, fun k' i _ hi _ ki => d i hi ki⟩
  · rw [h0, nI_leI (by omega) (by omega)] at q
    obtain ⟨i, hi, ei, eE⟩ := od.1 k (by omega)
    refine Pc_l (Pc_G (fun _ => ?_))
    rw [nI_clamp (by omega), ei, nI_clamp (by omega)]
    have ne : ∀ y, y < c → (∃ k', k' < k ∧ gA S0 12 k' = nI y) → y ≠ i := fun y hy ⟨k', k1, k2⟩ e => by
      rw [e, ← ei] at k2
      have := od.2 k' k (by omega) (by omega) k2
      omega
    -- the rows behind one step
    have stp : ∀ {r : Int64} {U : SS}, GBn S0 i → (∀ w, w < 64 → bL r w = NV2 S0 (bw (gB T 3) w) i) → gB U 3 = vp_updL (gB T 3) i r → (∀ i', i' < c → ¬ GBn S0 i' → gB U 3 i' = gB S5 3 i') ∧ (∀ k' i', k' < k + 1 → i' < c → gA S0 12 k' = nI i' → GBn S0 i' → ∀ w, w < 64 → bw (gB U 3) w i' = NV2 S0 (bw (gB U 3) w) i') ∧ ∀ k' i', k' < k + 1 → i' < c → gA S0 12 k' = nI i' → gA S0 4 i' = 1 → ∀ w, (ONE S0 (bw (gB U 3) w) i' ↔ ONE S0 (bw (gB T 3) w) i') := by
      intro r U gi hr eU
      have ch : ∀ y, y ≠ i → ∀ w, bw (gB U 3) w y = bw (gB T 3) w y := fun y hy w => by
        show bL (gB U 3 y) w = bL (gB T 3 y) w
        rw [eU, pk_uLn hy]
      have cE : ∀ k' i', k' < k + 1 → i' < c → gA S0 12 k' = nI i' → ∀ w, ∀ y, y < c → E i' y → bw (gB U 3) w y = bw (gB T 3) w y := fun k' i' hk' hi' e w y hy ey => by
        obtain ⟨k2, a1, a2⟩ := OD_E od hc (by omega) hi' e y ey
        exact ch y (ne y hy ⟨k2, by omega, a2⟩) w
      refine ⟨fun i' hi' u => ?_, fun k' i' hk' hi' e u w hw => ?_, fun k' i' hk' hi' e ki w => ?_⟩
      · rw [eU, pk_uLn (fun e => u (by rw [e]; exact gi))]
        exact h1 i' hi' u
      · rw [(NV2_c h hi' u (cE k' i' hk' hi' e w)).1]
        rcases Nat.lt_or_ge k' k with t | t
        · rw [ch i' (ne i' hi' ⟨k', t, e⟩) w]
          exact h2 k' i' t hi' e u w hw
        · have : k' = k := by omega
          rw [this, ei] at e
          have : i = i' := (nI_eq (by omega) (by omega)).mp e
          subst this
          show bL (gB U 3 i) w = _
          rw [eU, pk_uLs]
          exact hr w hw
      · unfold ONE
        rw [(NV2_c h hi' (Or.inl ki) (cE k' i' hk' hi' e w)).2 ki]
    refine Pc_c (fun u => Pc_B (p_gateRow h hi u) (fun r hr => Pc_L (fun U eU => Pc_l (Pc_s ?_)))) (fun u => Pc_c (fun x => Pc_B (p_busRow h hi x) (fun y hy => ?_)) (fun x => Pc_l (Pc_s ⟨k + 1, nI_1 k, by omega, h1, fun k' i' hk' hi' e t => ?_, fun w hw => ?_, t0, t1, t2⟩)))
    · have uB : gB U 3 = vp_updL (gB T 3) i r := by rw [eU, gB_eq]
      obtain ⟨a1, a2, a3⟩ := stp (r := r) (U := U) (Or.inr u) (fun w hw => by unfold NV2; rw [if_pos u]; exact hr w hw) uB
      refine ⟨k + 1, nI_1 k, by omega, a1, a2, fun w hw => ?_, by rw [eU]; exact t0, by rw [eU]; exact t1, by rw [eU]; exact t2⟩
      show bL (gL U 4) w = true ↔ _
      rw [show gL U 4 = gL T 4 by rw [eU]; rfl, h3 w hw]
      constructor
      · rintro ⟨p, d⟩
        refine ⟨p, fun k' i' hk' hi' e ki => ?_⟩
        rw [a3 k' i' hk' hi' e ki w]
        rcases Nat.lt_or_ge k' k with t | t
        · exact d k' i' t hi' e ki
        · have : k' = k := by omega
          rw [this, ei] at e
          have : i = i' := (nI_eq (by omega) (by omega)).mp e
          rw [← this, u] at ki
          exact absurd ki (by decide)
      · rintro ⟨p, d⟩
        exact ⟨p, fun k' i' hk' hi' e ki => (a3 k' i' (by omega) hi' e ki w).mp (d k' i' (by omega) hi' e ki)⟩
    · obtain ⟨r, U0⟩ := y
      obtain ⟨hr, L, eU0, hL⟩ := hy
      have eU0 : U0 = sL T 4 L := eU0
      refine Pc_L (fun U eU => Pc_l (Pc_s ?_))
      have uB : gB U 3 = vp_updL (gB T 3) i r := by rw [eU, gB_eq, eU0]; rfl
      obtain ⟨a1, a2, a3⟩ := stp (r := r) (U := U) (Or.inl x) (fun w hw => by unfold NV2; rw [if_neg u, if_pos x]; exact hr w hw) uB
      refine ⟨k + 1, nI_1 k, by omega, a1, a2, fun w hw => ?_, by rw [eU, eU0]; exact t0, by rw [eU, eU0]; exact t1, by rw [eU, eU0]; exact t2⟩
      show bL (gL U 4) w = true ↔ _
      rw [show gL U 4 = L by rw [eU, eU0]; show gL (sL T 4 L) 4 = L; rw [gL_sL, if_pos rfl], hL w hw, h3 w hw]
      constructor
      · rintro ⟨⟨p, d⟩, one⟩
        refine ⟨p, fun k' i' hk' hi' e ki => ?_⟩
        rw [a3 k' i' hk' hi' e ki w]
        rcases Nat.lt_or_ge k' k with t | t
        · exact d k' i' t hi' e ki
        · have : k' = k := by omega
          rw [this, ei] at e
          have : i = i' := (nI_eq (by omega) (by omega)).mp e
          rw [← this]
          exact one
      · rintro ⟨p, d⟩
        exact ⟨⟨p, fun k' i' hk' hi' e ki => (a3 k' i' (by omega) hi' e ki w).mp (d k' i' (by omega) hi' e ki)⟩, (a3 k i (by omega) hi ei x w).mp (d k i (by omega) hi ei x)⟩
    · rcases Nat.lt_or_ge k' k with s | s
      · exact h2 k' i' s hi' e t
      · have : k' = k := by omega
        rw [this, ei] at e
        have : i = i' := (nI_eq (by omega) (by omega)).mp e
        subst this
        rcases t with t | t
        · exact absurd t x
        · exact absurd t u
    · show bL (gL T 4) w = true ↔ _
      rw [h3 w hw]
      constructor
      · rintro ⟨p, d⟩
        refine ⟨p, fun k' i' hk' hi' e ki => ?_⟩
        rcases Nat.lt_or_ge k' k with t | t
        · exact d k' i' t hi' e ki
        · have : k' = k := by omega
          rw [this, ei] at e
          have : i = i' := (nI_eq (by omega) (by omega)).mp e
          rw [← this] at ki
          exact absurd ki x
      · rintro ⟨p, d⟩
        exact ⟨p, fun k' i' hk' hi' e ki => d k' i' (by omega) hi' e ki⟩
/-- what a source is in WORLD N -/
noncomputable def srb (S0 : SS) (f : Nat → Int32) (N i : Nat) : Bool := if f i < 2 then decide (f i = 1) else N.testBit (nf S0 f i)
theorem pat_b : ∀ q : Fin 6, ∀ w : Fin 64, bL (sp_f q.val) w.val = w.val.testBit q.val := by decide +kernel
theorem bI_nI {n j : Nat} (hn : n < 2 ^ 31) : bI (nI n) j = n.testBit j := by
  unfold bI
  show (nI n).toBitVec.toNat.testBit j = _
  rw [pk_tn (by omega)]
theorem e_freeRow {q B : Nat} (hq : q < 12) (hB : B < 64) : ∃ r, f_X5_freeRow (nI q) (nI B) = some r ∧ ∀ w, w < 64 → bL r w = (64 * B + w).testBit q := by
  have tb : ∀ w, w < 64 → (64 * B + w).testBit q = if q < 6 then w.testBit q else B.testBit (q - 6) := fun w hw => by
    rw [show 64 = 2 ^ 6 from rfl, Nat.testBit_two_pow_mul_add _ (show w < 2 ^ 6 from hw)]
  by_cases z : 6 ≤ q
  · have c6 : (6 : Int32) ≤ nI q := (nI_leI (a := 6) (by omega) (by omega)).mpr z
    have e6 : nI q - (6 : Int32) = nI (q - 6) := pk_sub (b := 6) z
    by_cases y : bI (nI B) (q - 6) = true
    · refine ⟨-1, E_y c6 (E_y (by rw [e6]; exact (bI_t (by omega)).mpr y) rfl), fun w hw => ?_⟩
      rw [tb w hw, if_neg (by omega), bL_m1 hw, ← bI_nI (n := B) (by omega), y]
    · refine ⟨0, E_y c6 (E_n (by rw [e6]; exact fun t => y ((bI_t (by omega)).mp t)) rfl), fun w hw => ?_⟩
      rw [tb w hw, if_neg (by omega), bL_0, ← bI_nI (n := B) (by omega)]
      exact (Bool.eq_false_iff.mpr y).symm
  · refine ⟨sp_f q, E_n (fun t => z ((nI_leI (a := 6) (by omega) (by omega)).mp t)) (E_G (ti_in (by rw [nI_toInt (by omega)]; omega) (by rw [nI_toInt (by omega)]; omega)) (by rw [nI_clamp (by omega)])), fun w hw => ?_⟩
    rw [tb w hw, if_pos (by omega)]
    exact pat_b ⟨q, by omega⟩ ⟨w, hw⟩
theorem p_fill {b c B : Nat} {E : Nat → Nat → Prop} {M : Nat → Nat} {S0 Y S5 : SS} (h : CE b c E M S0 Y) {f : Nat → Int32} (vq : ∀ i, i < c → VQ (f i)) (hF : nf S0 f c ≤ 12) (hB : B < 64) : Pc (f_X5_fillSources S5 S0 f (nI B)) (fun T => (∀ i, i < c → ¬ GBn S0 i → ∀ w, w < 64 → bL (gB T 3 i) w = srb S0 f (64 * B + w) i) ∧ (∀ k, gI T k = gI S5 k) ∧ ∀ k, gL T k = gL S5 k) := by
  obtain ⟨hc, hb, h0, _⟩ := h.1
  refine Pc_I (fun v : Int32 × Int32 × SS => ∃ k, v.1 = nI (nf S0 f k) ∧ v.2.1 = nI k ∧ k ≤ c ∧ (∀ i, i < k → ¬ GBn S0 i → ∀ w, w < 64 → bL (gB v.2.2 3 i) w = srb S0 f (64 * B + w) i) ∧ (∀ k, gI v.2.2 k = gI S5 k) ∧ ∀ k, gL v.2.2 k = gL S5 k) (fun v hv => ?_) _ ⟨0, rfl, rfl, Nat.zero_le _, fun i q => absurd q (Nat.not_lt_zero _), fun _ => rfl, fun _ => rfl⟩
  obtain ⟨v1, v2, T⟩ := v
  obtain ⟨k, e1, e2, hk, h1, tI, tL⟩ : ∃ k, v1 = nI (nf S0 f k) ∧ v2 = nI k ∧ k ≤ c ∧ (∀ i, i < k → ¬ GBn S0 i → ∀ w, w < 64 → bL (gB T 3 i) w = srb S0 f (64 * B + w) i) ∧ (∀ k, gI T k = gI S5 k) ∧ ∀ k, gL T k = gL S5 k := hv
  subst e1
  subst e2
  refine Pc_c (fun q => Pc_s ⟨fun i hi => h1 i ?_, tI, tL⟩) (fun q => ?_)
  · rw [h0, nI_leI (by omega) (by omega)] at q
    omega
  · rw [h0, nI_leI (by omega) (by omega)] at q
    have kc : k < c := by omega
    have no : ¬ fr S0 f k → nf S0 f (k + 1) = nf S0 f k := fun u => cn_n (P := fr S0 f) u
    have set : ∀ {r : Int64} {U : SS}, (∀ w, w < 64 → bL r w = srb S0 f (64 * B + w) k) → U = sB T 3 (vp_updL (gB T 3) k r) → (∀ i, i < k + 1 → ¬ GBn S0 i → ∀ w, w < 64 → bL (gB U 3 i) w = srb S0 f (64 * B + w) i) ∧ (∀ k, gI U k = gI S5 k) ∧ ∀ k, gL U k = gL S5 k := by
      intro r U hr eU
      refine ⟨fun i hi u w hw => ?_, fun k => by rw [eU]; exact tI k, fun k => by rw [eU]; exact tL k⟩
      rw [eU, gB_eq]
      by_cases e : i = k
      · rw [e, pk_uLs]
        exact hr w hw
      · rw [pk_uLn e]
        exact h1 i (by omega) u w hw
    rcases e_isSource hc h0 kc with ⟨s, e⟩ | ⟨s, e⟩
    · refine Pc_e e (Pc_c (fun z => absurd z ne10) (fun _ => Pc_G (fun _ => ?_)))
      rw [nI_clamp (by omega)]
      refine Pc_c (fun z => Pc_B (P := fun r => ∀ w, w < 64 → bL r w = srb S0 f (64 * B + w) k) (Pc_c (fun y => Pc_s (fun w hw => ?_)) (fun y => Pc_s (fun w hw => ?_))) (fun r hr => Pc_L (fun U eU => Pc_l (Pc_s ?_)))) (fun z => ?_)
      · unfold srb
        rw [if_pos z, decide_eq_true y]
        exact bL_m1 hw
      · unfold srb
        rw [if_pos z, decide_eq_false y]
        exact bL_0 w
      · obtain ⟨a1, a2, a3⟩ := set hr eU
        exact ⟨k + 1, by rw [no (fun u => u.2 z)], nI_1 k, by omega, a1, a2, a3⟩
      · have fk : fr S0 f k := ⟨s, z⟩
        have q12 : nf S0 f k < 12 := by
          have := cn_lt (P := fr S0 f) kc fk
          have : nf S0 f k < nf S0 f c := this
          omega
        obtain ⟨r, er, hr⟩ := e_freeRow q12 hB
        refine Pc_e er (Pc_L (fun U eU => Pc_l (Pc_l (Pc_s ?_))))
        obtain ⟨a1, a2, a3⟩ := set (fun w hw => by unfold srb; rw [if_neg z]; exact hr w hw) eU
        refine ⟨k + 1, ?_, nI_1 k, by omega, a1, a2, a3⟩
        show nI (nf S0 f k) + 1 = _
        unfold nf
        rw [cn_y (P := fr S0 f) fk]
        exact nI_1 _
    · refine Pc_e e (Pc_c (fun _ => Pc_l (Pc_s ⟨k + 1, by rw [no (fun u => s u.1)], nI_1 k, by omega, fun i hi u => ?_, tI, tL⟩)) (fun z => absurd rfl z))
      by_cases e : i = k
      · rw [e] at u
        exact absurd ((SR_G h kc).mpr u) s
      · exact h1 i (by omega) u
theorem p_collect {S0 S5 : SS} {c : Nat} (hc : c ≤ 60) (h0 : gI S0 0 = nI c) : Pc (f_X5_collect S5 S0) (fun T => gI T 0 = gI S5 0 + nI (cn (fun w => bL (gL S5 4) w = true) 64) ∧ (∀ i, i < 64 → (bL (gL T 2) i = true ↔ bL (gL S5 2) i = true ∨ (i < c ∧ ∃ w, w < 64 ∧ bL (gL S5 4) w = true ∧ bL (gB S5 3 i) w = true)) ∧ (bL (gL T 1) i = true ↔ bL (gL S5 1) i = true ∨ (i < c ∧ ∃ w, w < 64 ∧ bL (gL S5 4) w = true ∧ ¬ bL (gB S5 3 i) w = true)))) := by
  refine Pc_e (e_bitCount _) (Pc_L (fun A eA => ?_))
  have aB : gB A 3 = gB S5 3 := by rw [eA]; rfl
  have aL : ∀ k, gL A k = gL S5 k := fun k => by rw [eA]; rfl
  have a0 : gI A 0 = gI S5 0 + nI (cn (fun w => bL (gL S5 4) w = true) 64) := by rw [eA, gI_eq]
  refine Pc_I (fun v : Int32 × SS => ∃ k, v.1 = nI k ∧ k ≤ c ∧ gI v.2 0 = gI A 0 ∧ gB v.2 3 = gB S5 3 ∧ gL v.2 4 = gL S5 4 ∧ ∀ i, i < 64 → (bL (gL v.2 2) i = true ↔ bL (gL S5 2) i = true ∨ (i < k ∧ ∃ w, w < 64 ∧ bL (gL S5 4) w = true ∧ bL (gB S5 3 i) w = true)) ∧ (bL (gL v.2 1) i = true ↔ bL (gL S5 1) i = true ∨ (i < k ∧ ∃ w, w < 64 ∧ bL (gL S5 4) w = true ∧ ¬ bL (gB S5 3 i) w = true))) (fun v hv => ?_) _ ⟨0, rfl, Nat.zero_le _, rfl, aB, aL 4, fun i hi => ⟨by rw [aL]; exact ⟨fun q => Or.inl q, fun q => by rcases q with q | q; exact q; exact absurd q.1 (Nat.not_lt_zero _)⟩, by rw [aL]; exact ⟨fun q => Or.inl q, fun q => by rcases q with q | q; exact q; exact absurd q.1 (Nat.not_lt_zero _)⟩⟩⟩
  obtain ⟨v, T⟩ := v
  obtain ⟨k, ev, hk, t0, tB, t4, hh⟩ : ∃ k, v = nI k ∧ k ≤ c ∧ gI T 0 = gI A 0 ∧ gB T 3 = gB S5 3 ∧ gL T 4 = gL S5 4 ∧ ∀ i, i < 64 → (bL (gL T 2) i = true ↔ bL (gL S5 2) i = true ∨ (i < k ∧ ∃ w, w < 64 ∧ bL (gL S5 4) w = true ∧ bL (gB S5 3 i) w = true)) ∧ (bL (gL T 1) i = true ↔ bL (gL S5 1) i = true ∨ (i < k ∧ ∃ w, w < 64 ∧ bL (gL S5 4) w = true ∧ ¬ bL (gB S5 3 i) w = true)) := hv
  subst ev
  refine Pc_c (fun q => Pc_s ?_) (fun q => Pc_G (fun _ => ?_))
  · rw [h0, nI_leI (by omega) (by omega)] at q
    have : k = c := by omega
    rw [this] at hh
    exact ⟨t0.trans a0, hh⟩
  · rw [h0, nI_leI (by omega) (by omega)] at q
    rw [nI_clamp (by omega)]
    have stp : ∀ {P : Nat → Prop} {x y : Int64} {g : Nat → Prop}, (∀ i, i < 64 → (bL x i = true ↔ g i ∨ (i < k ∧ P i))) → ((P k ∧ y = (x ||| jLs (1 : Int64) (nI k))) ∨ (¬ P k ∧ y = x)) → ∀ i, i < 64 → (bL y i = true ↔ g i ∨ (i < k + 1 ∧ P i)) := by
      intro P x y g hx hy i hi
      rcases hy with ⟨p, e⟩ | ⟨p, e⟩
      · rw [e, bL_or, Bool.or_eq_true, hx i hi, bL_s (by omega) hi]
        constructor
        · rintro ((a | a) | a)
          · exact Or.inl a
          · exact Or.inr ⟨by omega, a.2⟩
          · rw [a]; exact Or.inr ⟨by omega, p⟩
        · rintro (a | ⟨a1, a2⟩)
          · exact Or.inl (Or.inl a)
          · by_cases e : i = k
            · exact Or.inr e
            · exact Or.inl (Or.inr ⟨by omega, a2⟩)
      · rw [e, hx i hi]
        constructor
        · rintro (a | a)
          · exact Or.inl a
          · exact Or.inr ⟨by omega, a.2⟩
        · rintro (a | ⟨a1, a2⟩)
          · exact Or.inl a
          · by_cases e : i = k
            · rw [e] at a2
              exact absurd a2 p
            · exact Or.inr ⟨by omega, a2⟩
    have any : ∀ {x y : Int64}, (lg_cmp (x &&& y) 0 = 0 ↔ ¬ ∃ w, w < 64 ∧ bL y w = true ∧ bL x w = true) := by
      intro x y
      rw [lc_eq, bL_z]
      constructor
      · rintro a ⟨w, w1, w2, w3⟩
        exact a w w1 (bL_and.mpr ⟨w3, w2⟩)
      · intro a j hj t
        obtain ⟨t1, t2⟩ := bL_and.mp t
        exact a ⟨j, hj, t2, t1⟩
    refine Pc_B (P := fun U => gI U 0 = gI A 0 ∧ gB U 3 = gB S5 3 ∧ gL U 4 = gL S5 4 ∧ gL U 1 = gL T 1 ∧ (((∃ w, w < 64 ∧ bL (gL S5 4) w = true ∧ bL (gB S5 3 k) w = true) ∧ gL U 2 = (gL T 2 ||| jLs (1 : Int64) (nI k))) ∨ ((¬ ∃ w, w < 64 ∧ bL (gL S5 4) w = true ∧ bL (gB S5 3 k) w = true) ∧ gL U 2 = gL T 2))) ?_ (fun U hU => ?_)
    · rw [tB, t4]
      refine Pc_i any (fun z => Pc_s ⟨t0, tB, t4, rfl, Or.inr ⟨z, rfl⟩⟩) (fun z => Pc_L (fun U eU => Pc_s ⟨?_, ?_, ?_, ?_, Or.inl ⟨Classical.byContradiction z, ?_⟩⟩))
      · rw [eU]; exact t0
      · rw [eU]; exact tB
      · rw [eU, gL_sL, if_neg (by decide)]; exact t4
      · rw [eU, gL_sL, if_neg (by decide)]
      · rw [eU, gL_sL, if_pos rfl]
    · obtain ⟨u0, uB, u4, u1, u2⟩ := hU
      rw [uB, u4]
      have any2 : lg_cmp ((gB S5 3 k ^^^ (-1 : Int64)) &&& gL S5 4) 0 = 0 ↔ ¬ ∃ w, w < 64 ∧ bL (gL S5 4) w = true ∧ ¬ bL (gB S5 3 k) w = true := by
        rw [any]
        constructor
        · rintro a ⟨w, w1, w2, w3⟩
          exact a ⟨w, w1, w2, (bL_not w1).mpr w3⟩
        · rintro a ⟨w, w1, w2, w3⟩
          exact a ⟨w, w1, w2, (bL_not w1).mp w3⟩
      have r2 := stp (P := fun i => ∃ w, w < 64 ∧ bL (gL S5 4) w = true ∧ bL (gB S5 3 i) w = true) (fun i hi => (hh i hi).1) u2
      refine Pc_i any2 (fun z => Pc_l (Pc_s ⟨k + 1, nI_1 k, by omega, u0, uB, u4, fun i hi => ⟨r2 i hi, ?_⟩⟩)) (fun z => Pc_L (fun W eW => Pc_l (Pc_s ⟨k + 1, nI_1 k, by omega, by rw [eW]; exact u0, by rw [eW]; exact uB, ?_, fun i hi => ⟨?_, ?_⟩⟩)))
      · show bL (gL U 1) i = true ↔ _
        exact stp (P := fun i => ∃ w, w < 64 ∧ bL (gL S5 4) w = true ∧ ¬ bL (gB S5 3 i) w = true) (fun i hi => (hh i hi).2) (Or.inr ⟨z, u1⟩) i hi
      · show gL W 4 = _
        rw [eW, gL_sL, if_neg (by decide)]; exact u4
      · show bL (gL W 2) i = true ↔ _
        rw [show gL W 2 = gL U 2 by rw [eW, gL_sL, if_neg (by decide)]]
        exact r2 i hi
      · show bL (gL W 1) i = true ↔ _
        rw [show gL W 1 = (gL T 1 ||| jLs (1 : Int64) (nI k)) by rw [eW, gL_sL, if_pos rfl, u1]]
        exact stp (P := fun i => ∃ w, w < 64 ∧ bL (gL S5 4) w = true ∧ ¬ bL (gB S5 3 i) w = true) (fun i hi => (hh i hi).2) (Or.inl ⟨Classical.byContradiction z, rfl⟩) i hi
