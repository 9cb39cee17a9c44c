/-! the class goes through all WORLDS -/
def LEG (c : Nat) (S0 : SS) (f : Nat → Int32) (N : Nat) : Prop := ∃ g, WSL c S0 (srb S0 f N) g ∧ LGL c S0 g
def EVR (c : Nat) (S0 : SS) (f : Nat → Int32) (N i : Nat) (v : Bool) : Prop := ∃ g, WSL c S0 (srb S0 f N) g ∧ LGL c S0 g ∧ g i = v
def WOK (c : Nat) (S0 : SS) (f : Nat → Int32) (S5 : SS) : Prop := gI S5 0 = nI (cn (LEG c S0 f) (2 ^ nf S0 f c)) ∧ ∀ i, i < c → (bL (gL S5 2) i = true ↔ ∃ N, N < 2 ^ nf S0 f c ∧ EVR c S0 f N i true) ∧ (bL (gL S5 1) i = true ↔ ∃ N, N < 2 ^ nf S0 f c ∧ EVR c S0 f N i false)
theorem mask_b : ∀ q : Fin 6, ∀ w : Fin 64, bL ((jLs (1 : Int64) ((1 : Int32) <<< (nI q.val &&& 31))) - (1 : Int64)) w.val = decide (w.val < 2 ^ q.val) := by decide +kernel
theorem shl_nI {k : Nat} (hk : k < 13) : (1 : Int32) <<< (nI k &&& 31) = nI (2 ^ k) := by
  have e := IV_shl12 ⟨k, hk⟩
  have e : ((1 : Int32) <<< (nI k &&& 31)).toInt = 2 ^ k := e
  have b : 2 ^ k ≤ 2 ^ 12 := Nat.pow_le_pow_right (by decide) (by omega)
  apply Int32.toInt_inj.mp
  rw [e, nI_toInt (by omega)]
  exact (Int.natCast_pow 2 k).symm
theorem cn_cut {P : Nat → Prop} {n : Nat} : ∀ {m : Nat}, n ≤ m → cn (fun i => i < n ∧ P i) m = cn P n := by
  intro m hm
  obtain ⟨d, rfl⟩ : ∃ d, m = n + d := ⟨m - n, by omega⟩
  rw [cn_add]
  have a : cn (fun i => i < n ∧ P i) n = cn P n := cn_c (fun i hi => ⟨fun q => q.2, fun q => ⟨hi, q⟩⟩)
  have b : cn (fun i => n + i < n ∧ P (n + i)) d = 0 := cn_0 (fun i _ q => by omega)
  rw [a, b]
  rfl
theorem p_goThrough {b c : Nat} {E : Nat → Nat → Prop} {M : Nat → Nat} {S0 Y S5 : SS} (h : CE b c E M S0 Y) {f : Nat → Int32} (vq : ∀ i, i < c → VQ (f i)) (hF : nf S0 f c ≤ 12) : Pc (f_X5_goThrough S5 S0 f (nI (nf S0 f c))) (WOK c S0 f) := by
  obtain ⟨hc, hb, h0, _⟩ := h.1
  generalize eF : nf S0 f c = F at hF
  have p12 : 2 ^ F ≤ 4096 := Nat.pow_le_pow_right (n := 2) (by decide) hF
  refine Pc_l (Pc_l (Pc_L (fun A eA => ?_)))
  have a0 : gI A 0 = 0 := by rw [eA, gI_sL, gI_sL, gI_eq]
  have a1 : gL A 1 = 0 := by rw [eA, gL_sL, if_neg (by decide), gL_sL, if_pos rfl]
  have a2 : gL A 2 = 0 := by rw [eA, gL_sL, if_pos rfl]
  -- how many blocks
  refine Pc_B (P := fun v => ∃ nb, v = nI nb ∧ nb ≤ 64 ∧ 2 ^ F ≤ 64 * nb ∧ (6 ≤ F → 64 * nb = 2 ^ F) ∧ (F < 6 → nb = 1)) (Pc_c (fun z => Pc_s ⟨1, rfl, by omega, ?_, fun q => ?_, fun _ => rfl⟩) (fun z => Pc_s ⟨2 ^ (F - 6), ?_, ?_, ?_, fun _ => ?_, fun q => ?_⟩)) (fun v hv => ?_)
  · have z := (nI_leI (b := 6) (by omega) (by omega)).mp z
    have : 2 ^ F ≤ 2 ^ 6 := Nat.pow_le_pow_right (by decide) z
    omega
  · have z := (nI_leI (b := 6) (by omega) (by omega)).mp z
    have : F = 6 := by omega
    rw [this]
  · have z : ¬ F ≤ 6 := fun t => z ((nI_leI (b := 6) (by omega) (by omega)).mpr t)
    rw [show nI F - (6 : Int32) = nI (F - 6) from pk_sub (b := 6) (by omega)]
    exact shl_nI (by omega)
  · exact Nat.le_trans (Nat.pow_le_pow_right (n := 2) (by decide) (show F - 6 ≤ 6 by omega)) (by decide)
  · have z : ¬ F ≤ 6 := fun t => z ((nI_leI (b := 6) (by omega) (by omega)).mpr t)
    rw [show (64 : Nat) = 2 ^ 6 from rfl, ← Nat.pow_add, show 6 + (F - 6) = F by omega]
    exact Nat.le_refl _
  · have z : ¬ F ≤ 6 := fun t => z ((nI_leI (b := 6) (by omega) (by omega)).mpr t)
    rw [show (64 : Nat) = 2 ^ 6 from rfl, ← Nat.pow_add, show 6 + (F - 6) = F by omega]
  · have z : ¬ F ≤ 6 := fun t => z ((nI_leI (b := 6) (by omega) (by omega)).mpr t)
    omega
  obtain ⟨nb, ev, nb64, nb1, nb2, nb3⟩ := hv
  subst ev
  -- which WORLDS of a block there are
  refine Pc_B (P := fun m => ∀ B w, B < nb → w < 64 → (bL m w = true ↔ 64 * B + w < 2 ^ F)) (Pc_c (fun z => Pc_s (fun B w hB hw => ?_)) (fun z => Pc_s (fun B w hB hw => ?_))) (fun m hm => ?_)
  · have z := (nI_ltI (b := 6) (by omega) (by omega)).mp z
    have B0 : B = 0 := by
      have := nb3 z
      omega
    have e : bL ((jLs (1 : Int64) ((1 : Int32) <<< (nI F &&& 31))) - (1 : Int64)) w = decide (w < 2 ^ F) := mask_b ⟨F, z⟩ ⟨w, hw⟩
    rw [e, decide_eq_true_iff, B0]
    omega
  · have z : ¬ F < 6 := fun t => z ((nI_ltI (b := 6) (by omega) (by omega)).mpr t)
    have := nb2 (by omega)
    rw [bL_m1 hw]
    exact ⟨fun _ => by omega, fun _ => rfl⟩
  refine Pc_w (Q := fun T => gI T 0 = nI (cn (fun N => N < 2 ^ F ∧ LEG c S0 f N) (64 * nb)) ∧ ∀ i, i < c → (bL (gL T 2) i = true ↔ ∃ N, N < 64 * nb ∧ N < 2 ^ F ∧ EVR c S0 f N i true) ∧ (bL (gL T 1) i = true ↔ ∃ N, N < 64 * nb ∧ N < 2 ^ F ∧ EVR c S0 f N i false)) ?_ (fun T hT => ?_)
  · refine Pc_I (fun v : Int32 × SS => ∃ B, v.1 = nI B ∧ B ≤ nb ∧ gI v.2 0 = nI (cn (fun N => N < 2 ^ F ∧ LEG c S0 f N) (64 * B)) ∧ ∀ i, i < c → (bL (gL v.2 2) i = true ↔ ∃ N, N < 64 * B ∧ N < 2 ^ F ∧ EVR c S0 f N i true) ∧ (bL (gL v.2 1) i = true ↔ ∃ N, N < 64 * B ∧ N < 2 ^ F ∧ EVR c S0 f N i false)) (fun v hv => ?_) _ ⟨0, rfl, Nat.zero_le _, a0, fun i hi => ⟨by show bL (gL A 2) i = true ↔ _; rw [a2, bL_0]; exact ⟨fun q => absurd q (by decide), fun ⟨N, q, _⟩ => absurd q (Nat.not_lt_zero _)⟩, by show bL (gL A 1) i = true ↔ _; rw [a1, bL_0]; exact ⟨fun q => absurd q (by decide), fun ⟨N, q, _⟩ => absurd q (Nat.not_lt_zero _)⟩⟩⟩
    obtain ⟨v, T⟩ := v
    obtain ⟨B, ev, hB, t0, ht⟩ : ∃ B, v = nI B ∧ B ≤ nb ∧ gI T 0 = nI (cn (fun N => N < 2 ^ F ∧ LEG c S0 f N) (64 * B)) ∧ ∀ i, i < c → (bL (gL T 2) i = true ↔ ∃ N, N < 64 * B ∧ N < 2 ^ F ∧ EVR c S0 f N i true) ∧ (bL (gL T 1) i = true ↔ ∃ N, N < 64 * B ∧ N < 2 ^ F ∧ EVR c S0 f N i false) := hv
    subst ev
    refine Pc_c (fun q => Pc_s ?_) (fun q => Pc_L (fun U eU => ?_))
    · rw [nI_leI (by omega) (by omega)] at q
      have : B = nb := by omega
      rw [this] at t0 ht
      exact ⟨t0, ht⟩
    · rw [nI_leI (by omega) (by omega)] at q
      have u4 : gL U 4 = m := by rw [eU, gL_sL, if_pos rfl]
      have u1 : gL U 1 = gL T 1 := by rw [eU, gL_sL, if_neg (by decide)]
      have u2 : gL U 2 = gL T 2 := by rw [eU, gL_sL, if_neg (by decide)]
      have u0 : gI U 0 = gI T 0 := by rw [eU]; rfl
      refine Pc_B (p_fill h vq (by rw [eF]; exact hF) (B := B) (by omega)) (fun V hV => Pc_B (p_followO h) (fun W hW => Pc_B (p_collect hc h0) (fun Z hZ => Pc_l (Pc_s ?_))))
      obtain ⟨v1, v2, v3⟩ := hV
      obtain ⟨w1, w2, w3, w4⟩ := hW
      obtain ⟨z1, z2⟩ := hZ
      have sol : ∀ w, w < 64 → WSL c S0 (srb S0 f (64 * B + w)) (bw (gB W 3) w) := fun w hw i hi => ⟨((w1 w hw).1 i hi).1, fun u => (((w1 w hw).1 i hi).2 u).trans (v1 i hi u w hw)⟩
      have lg : ∀ w, w < 64 → (bL (gL W 4) w = true ↔ 64 * B + w < 2 ^ F ∧ LEG c S0 f (64 * B + w)) := fun w hw => by
        rw [(w1 w hw).2, v3, u4, hm B w (by omega) hw]
        constructor
        · rintro ⟨a, d⟩
          exact ⟨a, _, sol w hw, d⟩
        · rintro ⟨a, g, g1, g2⟩
          exact ⟨a, LGL_c h (WSL_u h g1 (sol w hw) (fun _ _ _ => rfl)) g2⟩
      have ev : ∀ w i (v : Bool), w < 64 → i < c → (bL (gL W 4) w = true ∧ bL (gB W 3 i) w = v ↔ 64 * B + w < 2 ^ F ∧ EVR c S0 f (64 * B + w) i v) := fun w i v hw hi => by
        rw [(w1 w hw).2, v3, u4, hm B w (by omega) hw]
        constructor
        · rintro ⟨⟨a, d⟩, e⟩
          exact ⟨a, _, sol w hw, d, e⟩
        · rintro ⟨a, g, g1, g2, g3⟩
          have eq := WSL_u h g1 (sol w hw) (fun _ _ _ => rfl)
          exact ⟨⟨a, LGL_c h eq g2⟩, (eq i hi).symm.trans g3⟩
      have old : ∀ {x : Int64} {y : Int64} {i : Nat} {v : Bool}, i < c → (bL x i = true ↔ ∃ N, N < 64 * B ∧ N < 2 ^ F ∧ EVR c S0 f N i v) → (bL y i = true ↔ bL x i = true ∨ (i < c ∧ ∃ w, w < 64 ∧ bL (gL W 4) w = true ∧ bL (gB W 3 i) w = v)) → (bL y i = true ↔ ∃ N, N < 64 * (B + 1) ∧ N < 2 ^ F ∧ EVR c S0 f N i v) := by
        intro x y i v hi hx hy
        rw [hy, hx]
        constructor
        · rintro (⟨N, n1, n2⟩ | ⟨_, w, q1, q2⟩)
          · exact ⟨N, by omega, n2⟩
          · exact ⟨64 * B + w, by omega, (ev w i v q1 hi).mp q2⟩
        · rintro ⟨N, n1, n2⟩
          rcases Nat.lt_or_ge N (64 * B) with t | t
          · exact Or.inl ⟨N, t, n2⟩
          · refine Or.inr ⟨hi, N - 64 * B, by omega, ?_⟩
            rw [ev (N - 64 * B) i v (by omega) hi, show 64 * B + (N - 64 * B) = N by omega]
            exact n2
      refine ⟨B + 1, nI_1 B, by omega, ?_, fun i hi => ⟨?_, ?_⟩⟩
      · show gI Z 0 = _
        rw [z1, w2, v2, u0, t0, nI_add]
        refine congrArg nI ?_
        rw [show 64 * (B + 1) = 64 * B + 64 by omega, cn_add]
        exact congrArg _ (cn_c (fun w hw => lg w hw))
      · refine old hi (x := gL W 2) ?_ (z2 i (by omega)).1
        rw [w4, v3, u2]
        exact (ht i hi).1
      · refine old hi (x := gL W 1) (v := false) ?_ ?_
        · rw [w3, v3, u1]
          exact (ht i hi).2
        · rw [(z2 i (by omega)).2]
          constructor
          · rintro (a | ⟨a, w, q1, q2, q3⟩)
            · exact Or.inl a
            · exact Or.inr ⟨a, w, q1, q2, Bool.eq_false_iff.mpr q3⟩
          · rintro (a | ⟨a, w, q1, q2, q3⟩)
            · exact Or.inl a
            · exact Or.inr ⟨a, w, q1, q2, Bool.eq_false_iff.mp q3⟩
  · obtain ⟨t0, ht⟩ := hT
    unfold WOK
    rw [eF]
    refine ⟨by rw [t0, cn_cut nb1], fun i hi => ⟨?_, ?_⟩⟩
    · rw [(ht i hi).1]
      exact ⟨fun ⟨N, _, b⟩ => ⟨N, b⟩, fun ⟨N, b⟩ => ⟨N, by omega, b⟩⟩
    · rw [(ht i hi).2]
      exact ⟨fun ⟨N, _, b⟩ => ⟨N, b⟩, fun ⟨N, b⟩ => ⟨N, by omega, b⟩⟩
/-- a WORLD there is, whatever the sources -/
theorem WSL_ex {b c : Nat} {E : Nat → Nat → Prop} {M : Nat → Nat} {S0 Y : SS} (h : CE b c E M S0 Y) (s : Nat → Bool) : ∃ g, WSL c S0 s g := by
  have hc := h.1.1
  obtain ⟨od, _, pl, _⟩ := h.2.2.2.2.2.1
  have go : ∀ k, k ≤ c → ∃ g : Nat → Bool, (∀ i, i < c → ¬ GBn S0 i → g i = s i) ∧ ∀ k' i, k' < k → i < c → gA S0 12 k' = nI i → GBn S0 i → g i = NV2 S0 g i := by
    intro k
    induction k with
    | zero => intro _; exact ⟨s, fun _ _ _ => rfl, fun k' i q => absurd q (Nat.not_lt_zero _)⟩
    | succ k ih =>
      intro hk
      obtain ⟨g, h1, h2⟩ := ih (by omega)
      obtain ⟨i, hi, ei, eE⟩ := od.1 k (by omega)
      by_cases gi : GBn S0 i
      · have ne : ∀ y, y < c → (∃ k', k' < k ∧ gA S0 12 k' = nI y) → y ≠ i := fun y hy ⟨k', k1, k2⟩ e => by
          rw [e, ← ei] at k2
          have := od.2 k' k (by omega) (by omega) k2
          omega
        refine ⟨fun y => if y = i then NV2 S0 g i else g y, fun j hj u => ?_, fun k' j hk' hj e u => ?_⟩
        · show (if j = i then _ else _) = _
          rw [if_neg (fun e => u (by rw [e]; exact gi))]
          exact h1 j hj u
        · have cE : ∀ y, y < c → E j y → (fun y => if y = i then NV2 S0 g i else g y) y = g y := fun y hy ey => by
            obtain ⟨k2, a1, a2⟩ := OD_E od hc (by omega) hj e y ey
            exact if_neg (ne y hy ⟨k2, by omega, a2⟩)
          rw [(NV2_c h hj u cE).1]
          rcases Nat.lt_or_ge k' k with t | t
          · show (if j = i then _ else _) = _
            rw [if_neg (ne j hj ⟨k', t, e⟩)]
            exact h2 k' j t hj e u
          · have : k' = k := by omega
            rw [this, ei] at e
            have : i = j := (nI_eq (by omega) (by omega)).mp e
            subst this
            exact if_pos rfl
      · refine ⟨g, h1, fun k' j hk' hj e u => ?_⟩
        rcases Nat.lt_or_ge k' k with t | t
        · exact h2 k' j t hj e u
        · have : k' = k := by omega
          rw [this, ei] at e
          have : i = j := (nI_eq (by omega) (by omega)).mp e
          rw [← this] at u
          exact absurd u gi
  obtain ⟨g, h1, h2⟩ := go c (Nat.le_refl _)
  refine ⟨g, fun i hi => ⟨fun u => ?_, fun u => h1 i hi u⟩⟩
  obtain ⟨k, k1, k2⟩ := pl i hi
  exact h2 k i k1 hi k2 u
