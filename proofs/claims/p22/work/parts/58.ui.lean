/-! both read a text -/
/-- a CIRCUIT that both have read -/
def RDY (b : Nat) (C : Ct) (T0 Y : SS) : Prop := (∃ U, LK C (cU C) U ∧ K0 U T0 ∧ OD (EG C) (cC C) (cC C) (gA T0 12) ∧ OL (EG C) (cC C) (cC C) (gA T0 12) (gA T0 11) ∧ ∀ y, y < cC C → PLC (cC C) (gA T0 12) y) ∧ (∃ X Y1, LN b C X (cC C) ∧ F3 X Y1 ∧ RK b C Y1 ∧ F17 Y1 Y) ∧ LVA (EG C) (cC C) b (gA Y 17) ∧ GB C ∧ TRI C ∧ (∀ q, q < cU C → ¬ BU C q) ∧ ∀ j, j < cC C → ¬ TC (EG C) (cC C) j j
/-- behind a text: the other bank, and what no reading touches, is as in O -/
def OZ (b : Nat) (O Z : SS) : Prop := (gI Z 30 = nI b ∧ b ≤ 1) ∧ (∀ j, (j < 60 * b ∨ 60 * b + 60 ≤ j) → gB Z 11 j = gB O 11 j ∧ gA Z 12 j = gA O 12 j ∧ gA Z 13 j = gA O 13 j ∧ gA Z 14 j = gA O 14 j ∧ gA Z 15 j = gA O 15 j ∧ gA Z 17 j = gA O 17 j) ∧ (∀ j, (j < 720 * b ∨ 720 * b + 720 ≤ j) → gA Z 16 j = gA O 16 j) ∧ (∀ j, (j < 360 * b ∨ 360 * b + 360 ≤ j) → gA Z 19 j = gA O 19 j) ∧ (∀ k, 32 < k → gA Z k = gA O k) ∧ ∀ k, (k = 29 ∨ 30 < k) → gI Z k = gI O k
theorem OZ_OB {b : Nat} {O X : SS} (h : OB O b X) : OZ b O X := by
  obtain ⟨h1, h2, h3, h4⟩ := h
  refine ⟨h1, fun j hj => ?_, fun j _ => by rw [h3 16 (by omega)], fun j _ => by rw [h3 19 (by omega)], fun k hk => h3 k (by omega), h4⟩
  obtain ⟨a1, a2, a3, a4, a5⟩ := h2 j hj
  exact ⟨a1, a2, a3, a4, a5, by rw [h3 17 (by omega)]⟩
theorem OZ_FF {b : Nat} {O X Y : SS} (h : OZ b O X) (f : FF X Y) : OZ b O Y := by
  obtain ⟨⟨h1, h1b⟩, h2, h3, h4, h5, h6⟩ := h
  refine ⟨⟨by rw [FF_i f (by decide)]; exact h1, h1b⟩, fun j hj => ?_, fun j hj => by rw [FF_A f]; exact h3 j hj, fun j hj => by rw [FF_A f]; exact h4 j hj, fun k hk => by rw [FF_A f]; exact h5 k hk, fun k hk => by rw [FF_i f ⟨by omega, by omega⟩]; exact h6 k hk⟩
  rw [FF_B f, FF_A f, FF_A f, FF_A f, FF_A f, FF_A f]
  exact h2 j hj
theorem OZ_F3 {b : Nat} {O X Y : SS} (h : OZ b O X) (f : F3 X Y) (g : FB b X Y) : OZ b O Y := by
  obtain ⟨⟨h1, h1b⟩, h2, h3, h4, h5, h6⟩ := h
  obtain ⟨fI, fA, fB⟩ := f
  refine ⟨⟨by rw [fI]; exact h1, h1b⟩, fun j hj => ?_, fun j hj => by rw [g.2.1 j hj]; exact h3 j hj, fun j hj => by rw [g.2.2 j hj]; exact h4 j hj, fun k hk => by rw [fA k (by omega) (by omega) (by omega)]; exact h5 k hk, fun k hk => by rw [fI]; exact h6 k hk⟩
  rw [fB, fA 12 (by decide) (by decide) (by decide), fA 13 (by decide) (by decide) (by decide), g.1 j hj, fA 15 (by decide) (by decide) (by decide), fA 17 (by decide) (by decide) (by decide)]
  exact h2 j hj
theorem OZ_FG {b : Nat} {O X Y : SS} (h : OZ b O X) (f : FG b X Y) : OZ b O Y := by
  obtain ⟨⟨h1, h1b⟩, h2, h3, h4, h5, h6⟩ := h
  obtain ⟨fI, fA, fB, f17⟩ := f
  refine ⟨⟨by rw [fI 30 (by decide) (by decide)]; exact h1, h1b⟩, fun j hj => ?_, fun j hj => by rw [fA 16 (by decide) (by decide)]; exact h3 j hj, fun j hj => by rw [fA 19 (by decide) (by decide)]; exact h4 j hj, fun k hk => by rw [fA k (by omega) (by omega)]; exact h5 k hk, fun k hk => by rw [fI k (by omega) (by omega)]; exact h6 k hk⟩
  rw [fB, fA 12 (by decide) (by decide), fA 13 (by decide) (by decide), fA 14 (by decide) (by decide), fA 15 (by decide) (by decide), f17 j hj]
  exact h2 j hj
/-- what has come of it: class's answer r, its reader T3, its CIRCUIT T0, the reference Z -/
def OUT (b : Nat) (r : Int32) (T3 T0 O Z : SS) : Prop := (gI Z 4 ≠ 0 ∧ r = 0 ∧ gI T3 0 = gI Z 4 ∧ gI T3 1 = gI Z 5 ∧ OZ b O Z) ∨ (gI Z 4 = 0 ∧ gI Z 5 = -1 ∧ r = 1 ∧ gI T3 0 = 0 ∧ gI T3 1 = -1 ∧ ∃ C, RDY b C T0 Z)
def Cz (S3 S0 : SS) : Ct := (0, gB S0 2, gA S0 3, gA S0 4, gA S0 5, gA S0 6, 0, gB S3 12, gA S3 13, gA S3 14)
theorem LN_z {b : Nat} (hb : b ≤ 1) {S3 S0 X : SS} (x30 : gI X 30 = nI b) (x26 : gI X 26 = 0) (x27 : gI X 27 = 0) (x28 : gI X 28 = 0) : LN b (Cz S3 S0) X 0 := ⟨⟨⟨x30, hb⟩, ⟨x26, Nat.zero_le _⟩, fun i hi => absurd hi (Nat.not_lt_zero _)⟩, ⟨x27, fun i hi => absurd hi (Nat.not_lt_zero _)⟩, fun i hi => absurd hi (Nat.not_lt_zero _), fun i hi => absurd hi (Nat.not_lt_zero _), ⟨x28, fun i hi => absurd hi (Nat.not_lt_zero _)⟩, fun w => Nat.zero_le _, fun i hi => absurd hi (Nat.not_lt_zero _), fun i hi => absurd hi (Nat.not_lt_zero _)⟩
/-- the class behind its TOKENS -/
theorem rd_rest {S3 S1 S0 T3 T1 T0 A3 A1 A0 : SS} {r x : Int32} {f : Nat → Int32} {n : Nat} (hr : f_X3_readInto S3 S1 f S0 (nI n) = some (r, T3, T1, T0)) (ht : ∀ B0 B3 B1, f_X0_clear S0 = some B0 → f_X1_begin S1 f (nI n) = some B1 → B3 = sI (sI (sI S3 0 0) 1 (-1)) 15 0 → f_X3_takeTokens B3 B1 f B0 = some (x, A3, A1, A0)) : (x = 0 ∧ r = 0 ∧ T3 = A3) ∨ (x ≠ 0 ∧ ∃ y L3 L0, f_X3_linkUses A3 A0 = some (y, L3, L0) ∧ ((y = 0 ∧ r = 0 ∧ T3 = L3) ∨ (y ≠ 0 ∧ ∃ w M3, f_X3_checkLoops L3 L0 = some (w, M3) ∧ ((w = 0 ∧ r = 0 ∧ T3 = M3) ∨ (w ≠ 0 ∧ r = 1 ∧ T3 = M3 ∧ f_X0_arrange L0 = some T0))))) := by
  obtain ⟨B0, e0, hr⟩ := zB_spec hr
  obtain ⟨_, rfl, hr⟩ := zL_spec hr
  obtain ⟨_, rfl, hr⟩ := zL_spec hr
  obtain ⟨_, rfl, hr⟩ := zL_spec hr
  obtain ⟨B1, e1, hr⟩ := zB_spec (x := f_X1_begin S1 f (nI n)) hr
  obtain ⟨⟨x', A3', A1', A0'⟩, e2, hr⟩ := zB_spec hr
  rw [ht B0 _ B1 e0 e1 rfl] at e2
  cases e2
  by_cases c : x = 0
  · have hr := zY c hr
    cases hr
    exact Or.inl ⟨c, rfl, rfl⟩
  · have hr := zN c hr
    refine Or.inr ⟨c, ?_⟩
    obtain ⟨⟨y, L3, L0⟩, e3, hr⟩ := zB_spec hr
    refine ⟨y, L3, L0, e3, ?_⟩
    by_cases c2 : y = 0
    · have hr := zY c2 hr
      cases hr
      exact Or.inl ⟨c2, rfl, rfl⟩
    · have hr := zN c2 hr
      refine Or.inr ⟨c2, ?_⟩
      obtain ⟨⟨w, M3⟩, e4, hr⟩ := zB_spec hr
      refine ⟨w, M3, e4, ?_⟩
      by_cases c3 : w = 0
      · have hr := zY c3 hr
        cases hr
        exact Or.inl ⟨c3, rfl, rfl⟩
      · have hr := zN c3 hr
        obtain ⟨U0, e5, hr⟩ := zB_spec hr
        cases hr
        exact Or.inr ⟨c3, rfl, rfl, e5⟩
theorem p_readBoth {β : Type} {S3 S1 S0 X T3 T1 T0 : SS} {r : Int32} {f : Nat → Int32} {n b : Nat} (tx : TX f n X) (x7 : gI X 7 = 0) (hb : b ≤ 1) (x30 : gI X 30 = nI b) (x26 : gI X 26 = 0) (x27 : gI X 27 = 0) (x28 : gI X 28 = 0) (x4 : gI X 4 = 0) (x5 : gI X 5 = -1) (hr : f_X3_readInto S3 S1 f S0 (nI n) = some (r, T3, T1, T0)) {k : SS → Option β} {Q : β → Prop} (hk : ∀ Z, OUT b r T3 T0 X Z → Pc (k Z) Q) : Pc (zB (f_X7_next X) (fun (s7_29 : SS) =>
  zB (zI (b_X7_read_85) zF s7_29) (fun (s7_42 : SS) =>
  zB (f_X7_isGood s7_42) (fun (r43 : Int32) =>
  zB (if r43 = (0 : Int32) then some s7_42
  else zB (f_X7_resolve s7_42) (fun (s7_119 : SS) =>
  some s7_119)) (fun (s7_53 : SS) =>
  zB (f_X7_isGood s7_53) (fun (r54 : Int32) =>
  zB (if r54 = (0 : Int32) then some s7_53
  else zB (f_X7_levels s7_53) (fun (s7_114 : SS) =>
  some s7_114)) k)))))) Q := by
  have hn := tx.1
  -- the class's start
  have B1e : f_X1_begin S1 f (nI n) = some (sI (sI S1 1 (nI n)) 2 0) := by
    show some (sI (sI S1 1 (if (2000 : Int32) < nI n then (2000 : Int32) else nI n)) 2 0) = _
    rw [if_neg (by rw [show (2000 : Int32) = nI 2000 from rfl, nI_ltI (by omega) (by omega)]; omega)]
  have b1 : gI (sI (sI S1 1 (nI n)) 2 0) 1 = nI n := by rw [gI_ne (by decide), gI_eq]
  have b2 : gI (sI (sI S1 1 (nI n)) 2 0) 2 = nI 0 := gI_eq
  refine Pc_B (p_adv tx b1 b2 (x7.trans rfl) (Nat.zero_le _)) (fun A hA => ?_)
  obtain ⟨fx, V1, a, e, ha, ta, _⟩ := hA
  -- both at the first TOKEN
  have cz : CC (Cz S3 S0) (sI (sI (sI (sI S3 0 0) 1 (-1)) 15 0) 4 0) (sI (sI S0 0 0) 1 0) := by
    refine ⟨⟨?_, Nat.zero_le _⟩, ⟨rfl, rfl, rfl, rfl, rfl⟩, ⟨?_, rfl, rfl, rfl, ?_, ?_⟩, ?_, fun i hi => absurd hi (Nat.not_lt_zero _)⟩
    · rw [gI_ne (by decide), gI_eq]; rfl
    · rw [gI_ne (by decide), gI_eq]; rfl
    · rw [gI_ne (by decide), gI_ne (by decide), gI_ne (by decide), gI_eq]
    · rw [gI_ne (by decide), gI_ne (by decide), gI_eq]
    · rw [gI_eq]; rfl
  have ob0 : OB X b X := ⟨⟨x30, hb⟩, fun _ _ => ⟨rfl, rfl, rfl, rfl, rfl⟩, fun _ _ => rfl, fun _ _ => rfl⟩
  have le : LE f n ((0, sI (sI (sI (sI S3 0 0) 1 (-1)) 15 0) 4 0, V1, sI (sI S0 0 0) 1 0), X, b) b A := by
    refine ⟨Cz S3 S0, _, V1, _, a, e, ⟨⟨0, Rn_r _ _, Nat.zero_le _, by rw [FX_i fx (by decide)]; exact x5, OB_FX ob0 fx⟩, ta, cz, ?_, gI_eq, by rw [FX_i fx (by decide)]; exact x4⟩, LN_SD (LN_z hb x30 x26 x27 x28) (SD_FX fx), fun k hk => absurd hk (Nat.not_lt_zero _), fun k hk => absurd hk (Nat.not_lt_zero _)⟩
    show 3 * ((0 : Nat) : Int) + 0 ≤ (a : Int)
    omega
  -- the class's TOKENS
  have tt : ∀ {w : Int32 × SS × SS × SS}, TT f (0, sI (sI (sI (sI S3 0 0) 1 (-1)) 15 0) 4 0, V1, sI (sI S0 0 0) 1 0) w → ∀ B0 B3 B1, f_X0_clear S0 = some B0 → f_X1_begin S1 f (nI n) = some B1 → B3 = sI (sI (sI S3 0 0) 1 (-1)) 15 0 → ∀ w', f_X3_takeTokens B3 B1 f B0 = some w' → w' = w := by
    intro w g B0 B3 B1 e0 e1 e3 w' h
    rw [B1e] at e1
    cases e1
    cases e0
    subst e3
    have h2 : zB (f_X1_advance (sI (sI S1 1 (nI n)) 2 0) f) (fun (s1_3 : SS) => zS (zI (b_X3_takeTokens_14 f) zF ((0 : Int32), sI (sI (sI (sI S3 0 0) 1 (-1)) 15 0) 4 0, s1_3, sI (sI S0 0 0) 1 0)) ktl) = some w' := h
    obtain ⟨U1, eU, h2⟩ := zB_spec h2
    rw [ha] at eU
    cases eU
    exact TT_u h2 g
  have tk : ∃ w, ∀ B0 B3 B1, f_X0_clear S0 = some B0 → f_X1_begin S1 f (nI n) = some B1 → B3 = sI (sI (sI S3 0 0) 1 (-1)) 15 0 → f_X3_takeTokens B3 B1 f B0 = some w := by
    obtain ⟨B0, e0, hr⟩ := zB_spec hr
    obtain ⟨_, rfl, hr⟩ := zL_spec hr
    obtain ⟨_, rfl, hr⟩ := zL_spec hr
    obtain ⟨_, rfl, hr⟩ := zL_spec hr
    obtain ⟨B1, e1, hr⟩ := zB_spec (x := f_X1_begin S1 f (nI n)) hr
    obtain ⟨w, e2, hr⟩ := zB_spec hr
    refine ⟨w, fun C0 C3 C1 g0 g1 g3 => ?_⟩
    rw [e0] at g0
    rw [e1] at g1
    cases g0
    cases g1
    rw [g3]
    exact e2
  obtain ⟨⟨x, A3, A1, A0⟩, tk⟩ := tk
  have rest := rd_rest hr tk
  have tku : ∀ {w : Int32 × SS × SS × SS}, TT f (0, sI (sI (sI (sI S3 0 0) 1 (-1)) 15 0) 4 0, V1, sI (sI S0 0 0) 1 0) w → (x, A3, A1, A0) = w := fun g => tt g _ _ _ rfl B1e rfl _ (tk _ _ _ rfl B1e rfl)
  refine Pc_B (p_lines le) (fun D hD => ?_)
  rcases hD with hD | ⟨⟨C, C3, C1, C0, a2, e2, at2, ln, tri⟩, d8⟩
  · -- a FAULT among the TOKENS
    obtain ⟨d4, ⟨G3, G1, G0, g, g0, g1⟩, obD⟩ := hD
    have e := tku g
    cases e
    rcases rest with ⟨_, r0, eT⟩ | ⟨q, _⟩
    · refine Pc_e (e_isGood0 d4) (Pc_e (E_y rfl rfl) (Pc_e (e_isGood0 d4) (Pc_e (E_y rfl rfl) (hk D (Or.inl ⟨d4, r0, ?_, ?_, OZ_OB obD⟩)))))
      · rw [eT]; exact g0
      · rw [eT]; exact g1
    · exact absurd rfl q
  · have k1 : gI C1 3 = 1 := (TA_end at2.2.1).mp d8
    obtain ⟨⟨i, rn, hi, d5, obD⟩, ta2, cc, hz, s4, d4⟩ := at2
    have e := tku (TT_R rn (TT_G k1 s4))
    cases e
    have gb := GB_LN ln
    have hu : cU C ≤ 667 := by
      have := ta2.2.2.2.2.1
      omega
    obtain ⟨_, _, ⟨_, _, _, _, c30, c31⟩, _⟩ := id cc
    rcases rest with ⟨q, _⟩ | ⟨_, y, L3, L0, el, rest⟩
    · exact absurd q ne10
    have lq := p_linkUses gb tri cc hu _ el
    refine Pc_e (e_isGood1 d4) (Pc_B (P := fun Y => (∃ k, k < cU C ∧ BU C k ∧ (∀ q, q < k → ¬ BU C q) ∧ gI Y 4 = 4 ∧ gI Y 5 = cUp C k ∧ FF D Y) ∨ (gI Y 4 = 0 ∧ (∀ q, q < cU C → ¬ BU C q) ∧ F3 D Y ∧ RK b C Y ∧ FB b D Y)) ?_ (fun F hF => ?_))
    · show Pc (if (1 : Int32) = 0 then some D else _) _
      rw [if_neg ne10]
      exact Pc_B (p_resolve ln tri gb hu d4) (fun Y hY => Pc_s hY)
    · rcases hF with ⟨k0, k1, k2, k3, f4, f5, ff⟩ | ⟨f4, ok, f3, rk, fb⟩
      · -- a NAME that is told nowhere
        have f40 : gI F 4 ≠ 0 := by rw [f4]; decide
        have one : y = 0 ∧ L3 = flS A3 4 (cUp C k0) := by
          rcases lq with ⟨y0, k', h1, h2, h3, h4⟩ | ⟨_, _, h2, _⟩
          · have : k' = k0 := by
              rcases Nat.lt_trichotomy k' k0 with z | z | z
              · exact absurd h2 (k3 k' z)
              · exact z
              · exact absurd k2 (h3 k0 z)
            rw [this] at h4
            exact ⟨y0, h4⟩
          · exact absurd k2 (h2 k0 k1)
        rcases rest with ⟨_, r0, eT⟩ | ⟨q, _⟩
        · refine Pc_e (e_isGood0 f40) (Pc_e (E_y rfl rfl) (hk F (Or.inl ⟨f40, r0, ?_, ?_, OZ_FF (OZ_OB obD) ff⟩)))
          · rw [eT, one.2, f4]
            unfold flS
            rw [gI_ne (by decide), gI_eq]
          · rw [eT, one.2, f5]
            exact gI_eq
        · exact absurd one.1 q
      · have lk : y = 1 ∧ L3 = A3 ∧ LK C (cU C) L0 := by
          rcases lq with ⟨_, k', h1, h2, _⟩ | ⟨h1, h2, _, h4⟩
          · exact absurd h2 (ok k' h1)
          · exact ⟨h1, h2, h4⟩
        obtain ⟨y1, eL, lk⟩ := lk
        have rg := RG_mk ln tri gb ok f3 rk
        rcases rest with ⟨q, _⟩ | ⟨_, w, M3, ec, rest⟩
        · rw [y1] at q
          exact absurd q ne10
        have ll := p_checkLoops (E := EG C) gb.1 lk.1.1.1 (LK_E lk) _ ec
        refine Pc_e (e_isGood1 f4) (Pc_B (P := fun Z => (∃ k, k < cC C ∧ TC (EG C) (cC C) k k ∧ (∀ j, j < k → ¬ TC (EG C) (cC C) j j) ∧ gI Z 4 = 5 ∧ gI Z 5 = gA F 18 k ∧ FG b F Z) ∨ (gI Z 4 = 0 ∧ (∀ j, j < cC C → ¬ TC (EG C) (cC C) j j) ∧ F17 F Z ∧ LVA (EG C) (cC C) b (gA Z 17))) ?_ (fun G hG => hk G ?_))
        · show Pc (if (1 : Int32) = 0 then some F else _) _
          rw [if_neg ne10]
          exact Pc_B (p_levels rg f4) (fun Y hY => Pc_s hY)
        · rcases hG with ⟨k0, k1, k2, k3, g4, g5, fg⟩ | ⟨g4, ac, f17, lva⟩
          · have one : w = 0 ∧ ∃ g, M3 = flS (sB L3 16 g) 5 (gA L0 3 k0) := by
              rcases ll with ⟨w0, k', g, h1, h2, h3, h4⟩ | ⟨_, _, h2⟩
              · have : k' = k0 := by
                  rcases Nat.lt_trichotomy k' k0 with z | z | z
                  · exact absurd h2 (k3 k' z)
                  · exact z
                  · exact absurd k2 (h3 k0 z)
                rw [this] at h4
                exact ⟨w0, g, h4⟩
              · exact absurd k2 (h2 k0 k1)
            obtain ⟨w0, g, eM⟩ := one
            rcases rest with ⟨_, r0, eT⟩ | ⟨q, _⟩
            · refine Or.inl ⟨by rw [g4]; decide, r0, ?_, ?_, OZ_FG (OZ_F3 (OZ_OB obD) f3 fb) fg⟩
              · rw [eT, eM, g4]
                unfold flS
                rw [gI_ne (by decide), gI_eq]
              · rw [eT, eM, g5]
                unfold flS
                rw [gI_eq, lk.1.2.1.2.1, f3.2.1 18 (by decide) (by decide) (by decide)]
                exact ((ln.1.2.2 k0 k1).2.2.2).symm
            · exact absurd w0 q
          · have one : w = 1 ∧ ∃ g, M3 = sB L3 16 g := by
              rcases ll with ⟨_, k', _, h1, h2, _⟩ | ⟨h1, h2, _⟩
              · exact absurd h2 (ac k' h1)
              · exact ⟨h1, h2⟩
            obtain ⟨w1, g, eM⟩ := one
            rcases rest with ⟨q, _⟩ | ⟨_, r1, eT, ea⟩
            · rw [w1] at q
              exact absurd q ne10
            · refine Or.inr ⟨g4, ?_, r1, ?_, ?_, C, ⟨L0, lk, p_arrange gb.1 lk.1.1.1 (LK_E64 lk gb tri ok) (fun i y e => e.1) ac _ ea⟩, ⟨D, F, ln, f3, rk, f17⟩, lva, gb, tri, ok, ac⟩
              · rw [f17.1, f3.1]; exact d5
              · rw [eT, eM, eL]; exact c30
              · rw [eT, eM, eL]; exact c31
