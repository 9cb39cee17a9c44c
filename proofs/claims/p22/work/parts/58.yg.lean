/-! legal and gainsaid -/
def FRS (S0 S6 S5 : SS) : Prop := ¬ gI S6 9 = 0 → WOK (cN S0) S0 (gA S6 5) S5
theorem v_goT {b c : Nat} {E : Nat → Nat → Prop} {M : Nat → Nat} {S0 S6 S5 S7 A C : SS} {r : Int32} (h : CE b c E M S0 S7) (va : VAL S0 S6 S7) (fs : FRS S0 S6 S5) (ex : f_X6_goThroughWorlds S6 S0 S5 = some (r, A, C)) : gA A 5 = gA S6 5 ∧ ((nf S0 (gA S6 5) c ≤ 12 ∧ r ≠ 0 ∧ WOK c S0 (gA S6 5) C) ∨ (12 < nf S0 (gA S6 5) c ∧ r = 0 ∧ A = S6 ∧ C = S5)) := by
  obtain ⟨hc, _, h0, _⟩ := h.1
  have ec := CE_cN h
  obtain ⟨n, e1, ex⟩ := zB_spec ex
  have en : n = nI (nf S0 (gA S6 5) c) := p_countFree hc h0 _ e1
  have nb : nf S0 (gA S6 5) c ≤ c := cn_le c
  by_cases q : nf S0 (gA S6 5) c ≤ 12
  · rw [if_pos (by rw [en]; exact (nI_leI (b := 12) (by omega) (by omega)).mpr q)] at ex
    by_cases z : gI S6 9 = 0
    · rw [if_pos z] at ex
      obtain ⟨T, e2, ex⟩ := zB_spec ex
      rw [en] at e2
      have w := p_goThrough h (fun i hi => (va.1 i (by rw [ec]; exact hi)).2) q _ e2
      cases ex
      exact ⟨rfl, Or.inl ⟨q, ne10, w⟩⟩
    · rw [if_neg z] at ex
      cases ex
      refine ⟨rfl, Or.inl ⟨q, ne10, ?_⟩⟩
      have := fs z
      rw [ec] at this
      exact this
  · rw [if_neg (by rw [en]; exact fun t => q ((nI_leI (b := 12) (by omega) (by omega)).mp t))] at ex
    cases ex
    exact ⟨rfl, Or.inr ⟨by omega, rfl, rfl, rfl⟩⟩
theorem FRS_goT {b c : Nat} {E : Nat → Nat → Prop} {M : Nat → Nat} {S0 S6 S5 S7 A C : SS} {r : Int32} (h : CE b c E M S0 S7) (va : VAL S0 S6 S7) (fs : FRS S0 S6 S5) (ex : f_X6_goThroughWorlds S6 S0 S5 = some (r, A, C)) : FRS S0 A C := by
  obtain ⟨a5, ⟨_, _, w⟩ | ⟨_, _, e1, e2⟩⟩ := v_goT h va fs ex
  · intro _
    rw [a5, CE_cN h]
    exact w
  · rw [e1, e2]
    exact fs
theorem FRS_legal {b c : Nat} {E : Nat → Nat → Prop} {M : Nat → Nat} {S0 S6 S5 S7 A C : SS} {r : Int32} (h : CE b c E M S0 S7) (va : VAL S0 S6 S7) (fs : FRS S0 S6 S5) (ex : f_X6_legal S6 S0 S5 = some (r, A, C)) : FRS S0 A C := by
  obtain ⟨⟨x, A', C'⟩, e1, ex⟩ := zB_spec ex
  have q := FRS_goT h va fs e1
  by_cases z : x = 0
  · have ex := zY z ex
    cases ex
    exact q
  · have ex := zN z ex
    cases ex
    exact q
theorem FRS_sharp {b c : Nat} {E : Nat → Nat → Prop} {M : Nat → Nat} {S0 S6 S5 S7 A C : SS} {r p1 : Int32} (h : CE b c E M S0 S7) (va : VAL S0 S6 S7) (fs : FRS S0 S6 S5) (ex : f_X6_sharp S6 S0 S5 p1 = some (r, A, C)) : FRS S0 A C := by
  obtain ⟨⟨x, A', C'⟩, e1, ex⟩ := zB_spec ex
  have q := FRS_goT h va fs e1
  by_cases z : x = 0
  · have ex := zY z ex
    cases ex
    exact q
  · have ex := zN z ex
    obtain ⟨y, e2, ex⟩ := zB_spec ex
    by_cases z2 : y = 0
    · have ex := zY z2 ex
      cases ex
      exact q
    · have ex := zN z2 ex
      obtain ⟨t, e3, ex⟩ := zB_spec ex
      cases ex
      exact q
/-- the least of them, or none -/
def LST (P : Nat → Prop) (c m : Nat) : Prop := m ≤ c ∧ (∀ j, j < m → ¬ P j) ∧ (m < c → P m)
def enc (c m : Nat) : Int32 := if m < c then nI m else -1
theorem LST_u {P Q : Nat → Prop} {c m n : Nat} (e : ∀ i, i < c → (P i ↔ Q i)) (h : LST P c m) (g : LST Q c n) : m = n := by
  obtain ⟨h1, h2, h3⟩ := h
  obtain ⟨g1, g2, g3⟩ := g
  rcases Nat.lt_trichotomy m n with t | t | t
  · exact absurd ((e m (by omega)).mp (h3 (by omega))) (g2 m t)
  · exact t
  · exact absurd ((e n (by omega)).mpr (g3 (by omega))) (h2 n t)
theorem p_gs6 {S0 A C : SS} {c : Nat} (hc : c ≤ 60) (h0 : gI S0 0 = nI c) : Pc (zI (b_X6_gainsaid_12 S0 A C) zF (0 : Int32)) (fun w => w.2.1 = A ∧ w.2.2 = C ∧ ∃ m, w.1 = enc c m ∧ LST (fun i => ¬ 2 ≤ gA A 5 i ∧ (if (1 : Int32) - gA A 5 i = 0 then bL (gL C 1) i = true else bL (gL C 2) i = true)) c m) := by
  refine Pc_I (fun v : Int32 => ∃ k, v = nI k ∧ k ≤ c ∧ ∀ j, j < k → ¬ (¬ 2 ≤ gA A 5 j ∧ (if (1 : Int32) - gA A 5 j = 0 then bL (gL C 1) j = true else bL (gL C 2) j = true))) (fun v hv => ?_) _ ⟨0, rfl, Nat.zero_le _, fun j q => absurd q (Nat.not_lt_zero _)⟩
  obtain ⟨k, ev, hk, no⟩ := hv
  subst ev
  refine Pc_c (fun q => Pc_s ⟨rfl, rfl, c, ?_, Nat.le_refl _, fun j hj => no j ?_, fun t => absurd t (Nat.lt_irrefl _)⟩) (fun q => Pc_G (fun _ => ?_))
  · exact (if_neg (Nat.lt_irrefl _)).symm
  · rw [h0, nI_leI (by omega) (by omega)] at q
    omega
  · rw [h0, nI_leI (by omega) (by omega)] at q
    rw [nI_clamp (by omega)]
    have nx : ¬ (¬ 2 ≤ gA A 5 k ∧ (if (1 : Int32) - gA A 5 k = 0 then bL (gL C 1) k = true else bL (gL C 2) k = true)) → ∀ j, j < k + 1 → ¬ (¬ 2 ≤ gA A 5 j ∧ (if (1 : Int32) - gA A 5 j = 0 then bL (gL C 1) j = true else bL (gL C 2) j = true)) := fun u j hj => by
      by_cases e : j = k
      · rw [e]; exact u
      · exact no j (by omega)
    refine Pc_c (fun z => Pc_l (Pc_s ⟨k + 1, nI_1 k, by omega, nx (fun u => u.1 z)⟩)) (fun z => ?_)
    refine Pc_B (P := fun r => r ≠ 0 ↔ (if (1 : Int32) - gA A 5 k = 0 then bL (gL C 1) k = true else bL (gL C 2) k = true)) ?_ (fun r hr => Pc_c (fun y => Pc_l (Pc_s ⟨k + 1, nI_1 k, by omega, nx (fun u => hr.mpr u.2 y)⟩)) (fun y => Pc_s ⟨rfl, rfl, k, (if_pos (by omega)).symm, by omega, no, fun _ => ⟨z, hr.mp y⟩⟩))
    refine Pc_B (P := fun x => x = (if (1 : Int32) - gA A 5 k = 0 then gL C 1 else gL C 2)) (Pc_c (fun y => Pc_s (by rw [if_pos y])) (fun y => Pc_s (by rw [if_neg y]))) (fun x hx => ?_)
    rw [hx]
    by_cases y : (1 : Int32) - gA A 5 k = 0
    · rw [if_pos y, if_pos y]
      exact Pc_i (lcb_t (by omega)) (fun t => Pc_s ⟨fun _ => t, fun _ => ne10⟩) (fun t => Pc_s ⟨fun u => absurd rfl u, fun u => absurd u t⟩)
    · rw [if_neg y, if_neg y]
      exact Pc_i (lcb_t (by omega)) (fun t => Pc_s ⟨fun _ => t, fun _ => ne10⟩) (fun t => Pc_s ⟨fun u => absurd rfl u, fun u => absurd u t⟩)
theorem enc_neg {c m : Nat} (hc : c ≤ 60) : enc c m < 0 ↔ ¬ m < c := by
  unfold enc
  by_cases q : m < c
  · rw [if_pos q]
    exact ⟨fun t => absurd t (nI_pos (by omega)), fun t => absurd q t⟩
  · rw [if_neg q]
    exact ⟨fun _ => q, fun _ => by decide⟩
theorem p_gs43 {U : SS} {c m0 : Nat} {Q : Nat → Prop} (hc : c ≤ 60) (h29 : gI U 29 = nI c) (l0 : LST Q c m0) : Pc (zI (b_X7_gainsaid_43 U) zF (enc c m0, (0 : Int32))) (fun r => ∃ m, r = enc c m ∧ LST (fun i => Q i ∨ (¬ 2 ≤ gA U 34 i ∧ ¬ gA U 35 i = gA U 34 i)) c m) := by
  obtain ⟨q1, q2, q3⟩ := l0
  refine Pc_I (fun v : Int32 × Int32 => ∃ k m, v.1 = enc c m ∧ v.2 = nI k ∧ k ≤ c ∧ ((m = m0 ∧ k ≤ m0 ∧ ∀ j, j < k → ¬ (¬ 2 ≤ gA U 34 j ∧ ¬ gA U 35 j = gA U 34 j)) ∨ (m < k ∧ LST (fun i => Q i ∨ (¬ 2 ≤ gA U 34 i ∧ ¬ gA U 35 i = gA U 34 i)) c m))) (fun v hv => ?_) _ ⟨0, m0, rfl, rfl, Nat.zero_le _, Or.inl ⟨rfl, Nat.zero_le _, fun j q => absurd q (Nat.not_lt_zero _)⟩⟩
  obtain ⟨v1, v2⟩ := v
  obtain ⟨k, m, e1, e2, hk, st⟩ : ∃ k m, v1 = enc c m ∧ v2 = nI k ∧ k ≤ c ∧ ((m = m0 ∧ k ≤ m0 ∧ ∀ j, j < k → ¬ (¬ 2 ≤ gA U 34 j ∧ ¬ gA U 35 j = gA U 34 j)) ∨ (m < k ∧ LST (fun i => Q i ∨ (¬ 2 ≤ gA U 34 i ∧ ¬ gA U 35 i = gA U 34 i)) c m)) := hv
  subst e1
  subst e2
  refine Pc_c (fun q => Pc_s ⟨m, rfl, ?_⟩) (fun q => Pc_S ?_)
  · rw [h29, nI_leI (by omega) (by omega)] at q
    rcases st with ⟨a, d, e⟩ | ⟨_, l⟩
    · refine ⟨by omega, fun j hj t => ?_, fun t => ?_⟩
      · rcases t with t | t
        · exact q2 j (by omega) t
        · exact e j (by omega) t
      · omega
    · exact l
  · rw [h29, nI_leI (by omega) (by omega)] at q
    have go : (m = m0 ∧ k < m0 ∧ ∀ j, j < k → ¬ (¬ 2 ≤ gA U 34 j ∧ ¬ gA U 35 j = gA U 34 j)) → Pc (zG (vp_in (nI k) 60) (
        if (2 : Int32) ≤ (gA U 34 (nI k).toNatClampNeg) then zL (nI k + 1) (fun v47 =>
        some (Sum.inl (enc c m, v47)))
        else if (gA U 35 (nI k).toNatClampNeg) = (gA U 34 (nI k).toNatClampNeg) then zL (nI k + 1) (fun v49 =>
        some (Sum.inl (enc c m, v49)))
        else zL (nI k + 1) (fun v50 =>
        some (Sum.inl (nI k, v50))))) (PcI (fun v : Int32 × Int32 => ∃ k m, v.1 = enc c m ∧ v.2 = nI k ∧ k ≤ c ∧ ((m = m0 ∧ k ≤ m0 ∧ ∀ j, j < k → ¬ (¬ 2 ≤ gA U 34 j ∧ ¬ gA U 35 j = gA U 34 j)) ∨ (m < k ∧ LST (fun i => Q i ∨ (¬ 2 ≤ gA U 34 i ∧ ¬ gA U 35 i = gA U 34 i)) c m))) (fun r => ∃ m, r = enc c m ∧ LST (fun i => Q i ∨ (¬ 2 ≤ gA U 34 i ∧ ¬ gA U 35 i = gA U 34 i)) c m)) := fun ⟨a, d, e⟩ => by
      refine Pc_G (fun _ => ?_)
      rw [nI_clamp (by omega)]
      have nx : ¬ (¬ 2 ≤ gA U 34 k ∧ ¬ gA U 35 k = gA U 34 k) → ∀ j, j < k + 1 → ¬ (¬ 2 ≤ gA U 34 j ∧ ¬ gA U 35 j = gA U 34 j) := fun u j hj => by
        by_cases e' : j = k
        · rw [e']; exact u
        · exact e j (by omega)
      refine Pc_c (fun z => Pc_l (Pc_s ⟨k + 1, m, rfl, nI_1 k, by omega, Or.inl ⟨a, by omega, nx (fun u => u.1 z)⟩⟩)) (fun z => Pc_c (fun y => Pc_l (Pc_s ⟨k + 1, m, rfl, nI_1 k, by omega, Or.inl ⟨a, by omega, nx (fun u => u.2 y)⟩⟩)) (fun y => Pc_l (Pc_s ⟨k + 1, k, ?_, nI_1 k, by omega, Or.inr ⟨by omega, by omega, fun j hj t => ?_, fun _ => Or.inr ⟨z, y⟩⟩⟩)))
      · exact (if_pos (show k < c by omega)).symm
      · rcases t with t | t
        · exact q2 j (by omega) t
        · exact e j hj t
    refine Pc_i (enc_neg hc) (fun z => Pc_s ?_) (fun z => Pc_c (fun y => Pc_s ?_) (fun y => Pc_s ?_))
    · refine go ?_
      rcases st with ⟨a, d, e⟩ | ⟨a, l⟩
      · exact ⟨a, by omega, e⟩
      · omega
    · have mc : m < c := Classical.byContradiction z
      refine ⟨m, rfl, ?_⟩
      rcases st with ⟨a, d, e⟩ | ⟨a, l⟩
      · have y : enc c m ≤ nI k := y
        unfold enc at y
        rw [if_pos mc, nI_leI (by omega) (by omega)] at y
        refine ⟨by omega, fun j hj t => ?_, fun _ => Or.inl (by rw [a]; exact q3 (by omega))⟩
        rcases t with t | t
        · exact q2 j (by omega) t
        · exact e j (by omega) t
      · exact l
    · have mc : m < c := Classical.byContradiction z
      have y : ¬ enc c m ≤ nI k := y
      unfold enc at y
      rw [if_pos mc, nI_leI (by omega) (by omega)] at y
      refine go ?_
      rcases st with ⟨a, d, e⟩ | ⟨a, l⟩
      · exact ⟨a, by omega, e⟩
      · omega
/-- the reference, all WORLDS -/
def ALW (b c : Nat) (E : Nat → Nat → Prop) (M : Nat → Nat) (S0 S7 U : SS) : Prop := CE b c E M S0 U ∧ gA U 33 = gA S7 33 ∧ gA U 34 = gA S7 34 ∧ FD S0 (gA S7 33) c U
theorem ALW_s {b c : Nat} {E : Nat → Nat → Prop} {M : Nat → Nat} {S0 S7 U : SS} (h : ALW b c E M S0 S7 U) (r : Nat → Int32) : ALW b c E M S0 S7 (sA U 35 r) := by
  obtain ⟨a, d, e, f1, f2⟩ := h
  refine ⟨CE_sA a (by decide) r, by rw [gA_ne (by decide)]; exact d, by rw [gA_ne (by decide)]; exact e, f1, fun j hj q => ?_⟩
  rw [gA_ne (by decide)]
  exact f2 j hj q
theorem q_goes {b c N : Nat} {E : Nat → Nat → Prop} {M : Nat → Nat} {S0 S6 S7 U : SS} (h : ALW b c E M S0 S7 U) (va : VAL S0 S6 S7) (hc0 : cN S0 = c) (ce : CE b c E M S0 S7) (hF : nf S0 (gA S7 33) c ≤ 12) (hN : N < 4096) : Pc (f_X7_goes U (nI N)) (fun w => ∃ r, w.2 = sA U 35 r ∧ ((w.1 ≠ 0 ∧ LEG c S0 (gA S6 5) N ∧ ∀ i v, i < c → (EVR c S0 (gA S6 5) N i v ↔ r i = b2i v)) ∨ (w.1 = 0 ∧ ¬ LEG c S0 (gA S6 5) N))) := by
  obtain ⟨a, d, e, fd⟩ := h
  have src : ∀ i, i < c → ¬ GBn S0 i → srb S0 (gA S6 5) N i = srb S0 (gA U 33) N i := fun i hi u => by
    unfold srb
    rw [d, VAL_src ce va hi u, nf_eq ce va (n := i) (by omega)]
  obtain ⟨g, sol⟩ := WSL_ex a (srb S0 (gA U 33) N)
  have sol6 : WSL c S0 (srb S0 (gA S6 5) N) g := fun i hi => ⟨(sol i hi).1, fun u => ((sol i hi).2 u).trans (src i hi u).symm⟩
  have vq : ∀ i, i < c → ¬ GBn S0 i → VQ (gA U 33 i) := fun i hi u => by
    rw [d, ← VAL_src ce va hi u]
    exact (va.1 i (by rw [hc0]; exact hi)).2
  have un : ∀ g', WSL c S0 (srb S0 (gA S6 5) N) g' → ∀ i, i < c → g' i = g i := fun g' s' => WSL_u a s' sol6 (fun _ _ _ => rfl)
  have leg : LEG c S0 (gA S6 5) N ↔ LGL c S0 g := ⟨fun ⟨g', s', l'⟩ => LGL_c a (un g' s') l', fun l => ⟨g, sol6, l⟩⟩
  refine Pc_w (p_goes a vq (by rw [d]; exact hF) (by rw [d]; exact fd) hN sol) (fun w hw => ?_)
  obtain ⟨⟨r, er, hr⟩, hl⟩ := hw
  refine ⟨r, er, ?_⟩
  by_cases z : w.1 = 0
  · exact Or.inr ⟨z, fun t => hl.mpr (leg.mp t) z⟩
  · refine Or.inl ⟨z, leg.mpr (hl.mp z), fun i v hi => ?_⟩
    rw [hr z i hi]
    have bi : ∀ x y : Bool, b2i x = b2i y ↔ x = y := fun x y => by cases x <;> cases y <;> decide
    rw [bi]
    constructor
    · rintro ⟨g', s', _, e'⟩
      rw [← un g' s' i hi]
      exact e'
    · intro e'
      exact ⟨g, sol6, hl.mp z, e'⟩
theorem q_legal {b c : Nat} {E : Nat → Nat → Prop} {M : Nat → Nat} {S0 S6 S5 S7 A C D : SS} {rx rm : Int32} (h : CE b c E M S0 S7) (va : VAL S0 S6 S7) (fs : FRS S0 S6 S5) (ex : f_X6_legal S6 S0 S5 = some (rx, A, C)) (em : f_X7_legal S7 = some (rm, D)) : rx = rm := by
  obtain ⟨hc, _, h0, h29, _⟩ := h.1
  have ec := CE_cN h
  obtain ⟨⟨x, A', C'⟩, e1, ex⟩ := zB_spec ex
  obtain ⟨T, e2, em⟩ := zB_spec em
  have kp : KP S7 T := kp_X7_find S7 _ e2
  have kv : KV S7 T := kv_X7_find S7 _ e2
  have fd := p_find7 h _ e2
  have alw : ALW b c E M S0 S7 T := ⟨CE_f h ⟨kp.1 29 (by decide), kp.1 30 (by decide)⟩ (fun k hk => kp.2.1 k (by omega)) (kp.2.2.1 11), kv.1, kv.2, fd⟩
  have t39 := fd.1
  have ne := nf_eq h va (Nat.le_refl c)
  have nb : nf S0 (gA S7 33) c ≤ c := cn_le c
  rcases (v_goT h va fs e1).2 with ⟨q, x1, w⟩ | ⟨q, x0, _⟩
  · have ex := zN x1 ex
    cases ex
    rw [ne] at q
    rw [if_pos (by rw [t39]; exact (nI_leI (b := 12) (by omega) (by omega)).mpr q)] at em
    rw [w.1]
    have p12 : 2 ^ nf S0 (gA S7 33) c ≤ 4096 := Nat.pow_le_pow_right (n := 2) (by decide) q
    have go := Pc_I (b := b_X7_legal_20) (fun v : Int32 × Int32 × SS => ∃ k, v.2.1 = nI k ∧ k ≤ 2 ^ nf S0 (gA S7 33) c ∧ v.1 = nI (cn (LEG c S0 (gA S6 5)) k) ∧ ALW b c E M S0 S7 v.2.2) (Q := fun w : Int32 × SS => w.1 = nI (cn (LEG c S0 (gA S6 5)) (2 ^ nf S0 (gA S7 33) c))) (fun v hv => ?_) zF ⟨0, rfl, Nat.zero_le _, rfl, alw⟩ (rm, D) em
    · have go : rm = nI (cn (LEG c S0 (gA S6 5)) (2 ^ nf S0 (gA S7 33) c)) := go
      rw [go, ne]
    · obtain ⟨n, v, U⟩ := v
      obtain ⟨k, ev, hk, en, al⟩ : ∃ k, v = nI k ∧ k ≤ 2 ^ nf S0 (gA S7 33) c ∧ n = nI (cn (LEG c S0 (gA S6 5)) k) ∧ ALW b c E M S0 S7 U := hv
      subst ev
      subst en
      have sh : (1 : Int32) <<< ((gI U 39) &&& 31) = nI (2 ^ nf S0 (gA S7 33) c) := by
        rw [al.2.2.2.1]
        exact shl_nI (by omega)
      refine Pc_c (fun z => Pc_s ?_) (fun z => Pc_B (q_goes al va ec h q (N := k) ?_) (fun y hy => ?_))
      · rw [sh, nI_leI (by omega) (by omega)] at z
        have : k = 2 ^ nf S0 (gA S7 33) c := by omega
        rw [this]
        exact rfl
      · rw [sh, nI_leI (by omega) (by omega)] at z
        omega
      · rw [sh, nI_leI (by omega) (by omega)] at z
        obtain ⟨y1, V⟩ := y
        obtain ⟨r, eV, hy⟩ := hy
        have eV : V = sA U 35 r := eV
        have alV : ALW b c E M S0 S7 V := by rw [eV]; exact ALW_s al r
        rcases hy with ⟨y0, lg, _⟩ | ⟨y0, lg⟩
        · refine Pc_c (fun t => absurd t y0) (fun _ => Pc_l (Pc_l (Pc_s ⟨k + 1, nI_1 k, by omega, ?_, alV⟩)))
          rw [cn_y lg]
          exact nI_1 _
        · refine Pc_c (fun _ => Pc_l (Pc_l (Pc_s ⟨k + 1, nI_1 k, by omega, ?_, alV⟩))) (fun t => absurd y0 t)
          rw [cn_n lg]
          exact nI_add _ 0
  · have ex := zY x0 ex
    cases ex
    rw [ne] at q
    rw [if_neg (by rw [t39]; exact fun t => by have := (nI_leI (b := 12) (by omega) (by omega)).mp t; omega)] at em
    cases em
    rfl
theorem q_gainsaid {b c : Nat} {E : Nat → Nat → Prop} {M : Nat → Nat} {S0 S6 S5 S7 A C D : SS} {rx rm : Int32} (h : CE b c E M S0 S7) (va : VAL S0 S6 S7) (fs : FRS S0 S6 S5) (ex : f_X6_gainsaid S6 S0 S5 = some (rx, A, C)) (em : f_X7_gainsaid S7 = some (rm, D)) : rx = rm ∧ FRS S0 A C := by
  obtain ⟨hc, _, h0, h29, _⟩ := h.1
  have ec := CE_cN h
  obtain ⟨⟨x, A', C'⟩, e1, ex⟩ := zB_spec ex
  have fs' := FRS_goT h va fs e1
  obtain ⟨T, e2, em⟩ := zB_spec em
  have kp : KP S7 T := kp_X7_find S7 _ e2
  have kv : KV S7 T := kv_X7_find S7 _ e2
  have fd := p_find7 h _ e2
  have alw : ALW b c E M S0 S7 T := ⟨CE_f h ⟨kp.1 29 (by decide), kp.1 30 (by decide)⟩ (fun k hk => kp.2.1 k (by omega)) (kp.2.2.1 11), kv.1, kv.2, fd⟩
  have t39 := fd.1
  have ne := nf_eq h va (Nat.le_refl c)
  have nb : nf S0 (gA S7 33) c ≤ c := cn_le c
  obtain ⟨a5, hg⟩ := v_goT h va fs e1
  rcases hg with ⟨q, x1, w⟩ | ⟨q, x0, _⟩
  · have ex := zN x1 ex
    obtain ⟨g1, g2, m, em6, l6⟩ := p_gs6 hc h0 _ ex
    have g1 : A = A' := g1
    have g2 : C = C' := g2
    have em6 : rx = enc c m := em6
    rw [ne] at q
    rw [if_pos (by rw [t39]; exact (nI_leI (b := 12) (by omega) (by omega)).mpr q)] at em
    have p12 : 2 ^ nf S0 (gA S7 33) c ≤ 4096 := Nat.pow_le_pow_right (n := 2) (by decide) q
    have go := Pc_I (b := b_X7_gainsaid_20) (fun v : Int32 × Int32 × SS => ∃ k m, v.2.1 = nI k ∧ k ≤ 2 ^ nf S0 (gA S7 33) c ∧ v.1 = enc c m ∧ LST (fun i => ∃ N v, N < k ∧ EVR c S0 (gA S6 5) N i v ∧ ¬ 2 ≤ gA S6 5 i ∧ ¬ b2i v = gA S6 5 i) c m ∧ ALW b c E M S0 S7 v.2.2) (Q := fun w : Int32 × SS => ∃ m, w.1 = enc c m ∧ LST (fun i => ∃ N v, N < 2 ^ nf S0 (gA S7 33) c ∧ EVR c S0 (gA S6 5) N i v ∧ ¬ 2 ≤ gA S6 5 i ∧ ¬ b2i v = gA S6 5 i) c m) (fun v hv => ?_) zF ⟨0, c, rfl, Nat.zero_le _, (if_neg (Nat.lt_irrefl _)).symm, ⟨Nat.le_refl _, fun j _ ⟨N, v, n, _⟩ => absurd n (Nat.not_lt_zero _), fun t => absurd t (Nat.lt_irrefl _)⟩, alw⟩ (rm, D) em
    · obtain ⟨m', em7, l7⟩ := go
      have em7 : rm = enc c m' := em7
      rw [g1, g2]
      refine ⟨?_, fs'⟩
      rw [em6, em7]
      refine congrArg (enc c) (LST_u (fun i hi => ?_) l6 l7)
      rw [a5]
      obtain ⟨w2, w1⟩ := w.2 i hi
      rw [ne] at w1 w2
      have vi := (va.1 i (by rw [ec]; exact hi)).2
      constructor
      · rintro ⟨u1, u2⟩
        rcases (VQ_2 vi).mp (Classical.byContradiction (fun t => u1 (le2.mpr t))) with z | z
        · rw [z, if_neg (by decide), w2] at u2
          obtain ⟨N, n1, n2⟩ := u2
          exact ⟨N, true, n1, n2, u1, by rw [z]; decide⟩
        · rw [z, if_pos (by decide), w1] at u2
          obtain ⟨N, n1, n2⟩ := u2
          exact ⟨N, false, n1, n2, u1, by rw [z]; decide⟩
      · rintro ⟨N, v, n1, n2, u1, u2⟩
        refine ⟨u1, ?_⟩
        rcases (VQ_2 vi).mp (Classical.byContradiction (fun t => u1 (le2.mpr t))) with z | z
        · rw [z, if_neg (by decide), w2]
          have : v = true := by
            cases v with
            | true => rfl
            | false => rw [z] at u2; exact absurd (by decide) u2
          rw [this] at n2
          exact ⟨N, n1, n2⟩
        · rw [z, if_pos (by decide), w1]
          have : v = false := by
            cases v with
            | false => rfl
            | true => rw [z] at u2; exact absurd (by decide) u2
          rw [this] at n2
          exact ⟨N, n1, n2⟩
    · obtain ⟨n, v, U⟩ := v
      obtain ⟨k, m, ev, hk, en, ls, al⟩ : ∃ k m, v = nI k ∧ k ≤ 2 ^ nf S0 (gA S7 33) c ∧ n = enc c m ∧ LST (fun i => ∃ N v, N < k ∧ EVR c S0 (gA S6 5) N i v ∧ ¬ 2 ≤ gA S6 5 i ∧ ¬ b2i v = gA S6 5 i) c m ∧ ALW b c E M S0 S7 U := hv
      subst ev
      subst en
      have sh : (1 : Int32) <<< ((gI U 39) &&& 31) = nI (2 ^ nf S0 (gA S7 33) c) := by
        rw [al.2.2.2.1]
        exact shl_nI (by omega)
      refine Pc_c (fun z => Pc_s ⟨m, rfl, ?_⟩) (fun z => Pc_B (q_goes al va ec h q (N := k) ?_) (fun y hy => ?_))
      · rw [sh, nI_leI (by omega) (by omega)] at z
        have : k = 2 ^ nf S0 (gA S7 33) c := by omega
        rw [← this]
        exact ls
      · rw [sh, nI_leI (by omega) (by omega)] at z
        omega
      · rw [sh, nI_leI (by omega) (by omega)] at z
        obtain ⟨y1, V⟩ := y
        obtain ⟨r, eV, hy⟩ := hy
        have eV : V = sA U 35 r := eV
        have alV : ALW b c E M S0 S7 V := by rw [eV]; exact ALW_s al r
        rcases hy with ⟨y0, lg, evr⟩ | ⟨y0, lg⟩
        · have v35 : gA V 35 = r := by rw [eV, gA_eq]
          have vb : ∀ i, i < c → ∃ v, r i = b2i v := fun i hi => by
            obtain ⟨g, s, l⟩ := lg
            exact ⟨g i, (evr i (g i) hi).mp ⟨g, s, l, rfl⟩⟩
          refine Pc_c (fun t => absurd t y0) (fun _ => Pc_B (p_gs43 (U := V) hc alV.1.1.2.2.2.1 ls) (fun f hf => Pc_l (Pc_s ?_)))
          obtain ⟨m', ef, lf⟩ := hf
          refine ⟨k + 1, m', nI_1 k, by omega, ef, ?_, alV⟩
          obtain ⟨a1, a2, a3⟩ := lf
          have iff : ∀ i, i < c → (((∃ N v, N < k ∧ EVR c S0 (gA S6 5) N i v ∧ ¬ 2 ≤ gA S6 5 i ∧ ¬ b2i v = gA S6 5 i) ∨ (¬ 2 ≤ gA V 34 i ∧ ¬ gA V 35 i = gA V 34 i)) ↔ ∃ N v, N < k + 1 ∧ EVR c S0 (gA S6 5) N i v ∧ ¬ 2 ≤ gA S6 5 i ∧ ¬ b2i v = gA S6 5 i) := fun i hi => by
            have v34 : gA V 34 i = gA S6 5 i := by rw [alV.2.2.1]; exact ((va.1 i (by rw [ec]; exact hi)).1).symm
            rw [v34, v35]
            constructor
            · rintro (⟨N, v, n1, n2⟩ | ⟨u1, u2⟩)
              · exact ⟨N, v, by omega, n2⟩
              · obtain ⟨v, hv⟩ := vb i hi
                rw [hv] at u2
                exact ⟨k, v, by omega, (evr i v hi).mpr hv, u1, u2⟩
            · rintro ⟨N, v, n1, n2, u1, u2⟩
              by_cases e : N = k
              · subst e
                have := (evr i v hi).mp n2
                rw [← this] at u2
                exact Or.inr ⟨u1, u2⟩
              · exact Or.inl ⟨N, v, by omega, n2, u1, u2⟩
          exact ⟨a1, fun j hj t => a2 j hj ((iff j (by omega)).mpr t), fun t => (iff m' t).mp (a3 t)⟩
        · refine Pc_c (fun _ => Pc_l (Pc_s ⟨k + 1, m, nI_1 k, by omega, rfl, ?_, alV⟩)) (fun t => absurd y0 t)
          obtain ⟨a1, a2, a3⟩ := ls
          refine ⟨a1, fun j hj ⟨N, v, n1, n2, n3⟩ => a2 j hj ⟨N, v, ?_, n2, n3⟩, fun t => ?_⟩
          · by_cases e : N = k
            · subst e
              obtain ⟨g, s, l, _⟩ := n2
              exact absurd ⟨g, s, l⟩ lg
            · omega
          · obtain ⟨N, v, n1, n2⟩ := a3 t
            exact ⟨N, v, by omega, n2⟩
  · have ex := zY x0 ex
    cases ex
    rw [ne] at q
    rw [if_neg (by rw [t39]; exact fun t => by have := (nI_leI (b := 12) (by omega) (by omega)).mp t; omega)] at em
    cases em
    exact ⟨rfl, fs'⟩
theorem FRS_k {S0 S6 S5 A : SS} (h : FRS S0 S6 S5) (h9 : gI A 9 = gI S6 9) (h5 : gA A 5 = gA S6 5) : FRS S0 A S5 := fun w => by
  rw [h9] at w
  rw [h5]
  exact h w
theorem FRS_0 {S0 S5 A : SS} (h9 : gI A 9 = 0) : FRS S0 A S5 := fun w => absurd h9 w
theorem p_fresh (B S0 : SS) : Pc (f_X6_settleValues B S0) (fun A => gI A 9 = 0) := Pc_B (P := fun _ => True) (fun _ _ => trivial) (fun g _ => Pc_l (Pc_l (Pc_s gI_eq)))
theorem p_set9 (S6 S0 : SS) (p1 p2 : Int32) : Pc (f_X6_set S6 S0 p1 p2) (fun w => w.2 = S6 ∨ gI w.2 9 = 0) := Pc_B (P := fun _ => True) (fun _ _ => trivial) (fun _ _ => Pc_c (fun _ => Pc_s (Or.inl rfl)) (fun _ => Pc_c (fun _ => Pc_s (Or.inl rfl)) (fun _ => Pc_c (fun _ => Pc_G (fun _ => Pc_l (Pc_B (p_fresh _ S0) (fun A hA => Pc_s (Or.inr hA))))) (fun _ => Pc_s (Or.inl rfl)))))
theorem p_load9 (S6 S0 : SS) (p1 p2 : Int32) : Pc (f_X6_load S6 S0 p1 p2) (fun w => w.2 = S6 ∨ gI w.2 9 = 0) := Pc_B (P := fun _ => True) (fun _ _ => trivial) (fun _ _ => Pc_c (fun _ => Pc_s (Or.inl rfl)) (fun _ => Pc_c (fun _ => Pc_s (Or.inl rfl)) (fun _ => Pc_c (fun _ => Pc_G (fun _ => Pc_l (Pc_B (p_fresh _ S0) (fun A hA => Pc_s (Or.inr hA))))) (fun _ => Pc_s (Or.inl rfl)))))
theorem p_tick9 (S6 S0 : SS) : Pc (f_X6_tick S6 S0) (fun w => w.2 = S6 ∨ gI w.2 9 = 0) := Pc_B (P := fun _ => True) (fun _ _ => trivial) (fun T _ => Pc_B (P := fun _ => True) (fun _ _ => trivial) (fun x _ => by
  obtain ⟨n, U⟩ := x
  exact Pc_B (p_fresh U S0) (fun A hA => Pc_s (Or.inr hA))))
theorem FRS_or {S0 S6 S5 A : SS} (h : FRS S0 S6 S5) (q : A = S6 ∨ gI A 9 = 0) : FRS S0 A S5 := by
  rcases q with q | q
  · rw [q]; exact h
  · exact FRS_0 q
