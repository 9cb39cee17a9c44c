/-! about -/
theorem q_about {b c Bd : Nat} {E : Nat → Nat → Prop} {M : Nat → Nat} {S0 S6 S4 S7 D : SS} {p1 rx rm : Int32} (h : CE b c E M S0 S7) (va : VAL S0 S6 S7) (wh : gI S6 11 = gI S7 46) (rg : gI S0 1 = gI S7 31) (wr : ¬ gI S7 46 = 0 → WB Bd c S0 S4 S7) (ex : f_X6_about S6 S0 S4 p1 = some rx) (em : f_X7_about S7 p1 = some (rm, D)) : rx = rm := by
  obtain ⟨hc, hb, h0, h29, h30⟩ := h.1
  obtain ⟨T, e1, em⟩ := zB_spec em
  have kp : KP S7 T := kp_X7_find S7 _ e1
  have kh : KH S7 T := kh_X7_find S7 _ e1
  have fd := (p_find7 h _ e1).1
  have t46 : gI T 46 = gI S7 46 := kp.2.2.2
  by_cases p0 : p1 = 0
  · have e6 : f_X6_about S6 S0 S4 p1 = some (gI S0 0) := E_y p0 rfl
    rw [if_pos p0] at em
    rw [ex] at e6
    cases em
    rw [Option.some.inj e6, h0, kp.1 29 (by decide), h29]
  rw [if_neg p0] at em
  by_cases p1' : p1 = 1
  · have e6 : f_X6_about S6 S0 S4 p1 = some (gI S0 1) := E_n p0 (E_y p1' rfl)
    rw [if_pos p1'] at em
    rw [ex] at e6
    cases em
    rw [Option.some.inj e6, rg, kp.1 31 (by decide)]
  rw [if_neg p1'] at em
  by_cases p2' : p1 = 2
  · rw [if_pos p2', t46] at em
    by_cases w : gI S7 46 = 0
    · have e6 : f_X6_about S6 S0 S4 p1 = some (-1) := E_n p0 (E_n p1' (E_y p2' (E_y (wh.trans w) rfl)))
      rw [if_pos w] at em
      rw [ex] at e6
      cases em
      exact Option.some.inj e6
    · have e6 : f_X6_about S6 S0 S4 p1 = some (gI S4 0) := E_n p0 (E_n p1' (E_y p2' (E_n (fun q => w (wh.symm.trans q)) rfl)))
      rw [if_neg w] at em
      rw [ex] at e6
      cases em
      rw [Option.some.inj e6, kh.2 47 (by decide)]
      exact (wr w).1.1
  rw [if_neg p2'] at em
  by_cases p3' : p1 = 3
  · rw [if_pos p3', t46] at em
    by_cases w : gI S7 46 = 0
    · have e6 : f_X6_about S6 S0 S4 p1 = some (-1) := E_n p0 (E_n p1' (E_n p2' (E_y p3' (E_y (wh.trans w) rfl))))
      rw [if_pos w] at em
      rw [ex] at e6
      cases em
      exact Option.some.inj e6
    · have wb := wr w
      rw [if_neg w] at em
      obtain ⟨r, e2, em⟩ := zB_spec em
      have hq : r ≠ 0 ↔ gI T 48 = 0 ∧ ∀ i, i < c → gA T 45 i = 0 := p_isQuiet hc (by rw [kp.1 29 (by decide)]; exact h29) _ e2
      rw [kh.2 48 (by decide), kh.1 45 (by decide)] at hq
      have z7 : gL S4 7 = 0 ↔ ∀ i, i < c → gA S7 45 i = 0 := by
        rw [bL_z]
        constructor
        · intro q i hi
          exact Classical.byContradiction (fun u => q i (by omega) ((wb.2.2.2.2.1 i (by omega)).mpr ⟨hi, u⟩))
        · intro q j hj u
          obtain ⟨a, d⟩ := (wb.2.2.2.2.1 j hj).mp u
          exact d (q j a)
      have qt : f_X4_quiet S4 = some (if gI S7 48 = 0 ∧ ∀ i, i < c → gA S7 45 i = 0 then 1 else 0) := by
        unfold f_X4_quiet
        rw [wb.1.2]
        by_cases u : gI S7 48 = 0
        · rw [if_pos u]
          by_cases v : gL S4 7 = 0
          · rw [if_pos (lc_eq.mpr v), if_pos ⟨u, z7.mp v⟩]
          · rw [if_neg (fun t => v (lc_eq.mp t)), if_neg (fun t => v (z7.mpr t.2))]
        · rw [if_neg u, if_neg (fun t => u t.1)]
      have e6 : f_X6_about S6 S0 S4 p1 = some (if gI S7 48 = 0 ∧ ∀ i, i < c → gA S7 45 i = 0 then 1 else 0) := E_n p0 (E_n p1' (E_n p2' (E_y p3' (E_n (fun q => w (wh.symm.trans q)) (E_B qt rfl)))))
      rw [ex] at e6
      rw [Option.some.inj e6]
      by_cases u : r = 0
      · rw [if_pos u] at em
        cases em
        exact if_neg (fun t => hq.mpr t u)
      · rw [if_neg u] at em
        cases em
        exact if_pos (hq.mp u)
  rw [if_neg p3'] at em
  by_cases p4' : p1 = 4
  · rw [if_pos p4', t46] at em
    by_cases w : gI S7 46 = 0
    · have e6 : f_X6_about S6 S0 S4 p1 = some (-1) := E_n p0 (E_n p1' (E_n p2' (E_n p3' (E_y p4' (E_y (wh.trans w) rfl)))))
      rw [if_pos w] at em
      rw [ex] at e6
      cases em
      exact Option.some.inj e6
    · have e6 : f_X6_about S6 S0 S4 p1 = some (gI S4 1) := E_n p0 (E_n p1' (E_n p2' (E_n p3' (E_y p4' (E_n (fun q => w (wh.symm.trans q)) rfl)))))
      rw [if_neg w] at em
      rw [ex] at e6
      cases em
      rw [Option.some.inj e6, kh.2 48 (by decide)]
      exact (wr w).1.2
  rw [if_neg p4'] at em
  by_cases p5' : p1 = 5
  · rw [if_pos p5'] at em
    cases em
    have ex : zB (f_X6_countFree S6 S0) (fun (r14 : Int32) => some r14) = some rx := by
      rw [← ex]
      exact (E_n p0 (E_n p1' (E_n p2' (E_n p3' (E_n p4' (E_y p5' rfl)))))).symm
    obtain ⟨r, a1, a2⟩ := zB_spec ex
    cases a2
    have a1 : rx = nI (nf S0 (gA S6 5) c) := p_countFree hc h0 _ a1
    rw [a1, fd, nf_eq h va (Nat.le_refl _)]
  · rw [if_neg p5'] at em
    cases em
    have e6 : f_X6_about S6 S0 S4 p1 = some (-1) := E_n p0 (E_n p1' (E_n p2' (E_n p3' (E_n p4' (E_n p5' rfl)))))
    rw [ex] at e6
    exact Option.some.inj e6
/-! the wheels of both between calls -/
def WHL (Bd : Nat) (S0 S4 S7 : SS) : Prop := ¬ gI S7 46 = 0 → ∃ b c E M, CE b c E M S0 S7 ∧ WR Bd c E S0 S4 S7
theorem WHL_mono {Bd B' : Nat} {S0 S4 S7 : SS} (h : WHL Bd S0 S4 S7) (hb : Bd ≤ B') : WHL B' S0 S4 S7 := fun w => by
  obtain ⟨b, c, E, M, a, d⟩ := h w
  exact ⟨b, c, E, M, a, WR_mono d hb⟩
theorem WR_KH {Bd c : Nat} {E : Nat → Nat → Prop} {S0 S4 S7 D : SS} (h : WR Bd c E S0 S4 S7) (hA : ∀ k, 40 ≤ k → gA D k = gA S7 k) (hI : ∀ k, 46 ≤ k → gI D k = gI S7 k) : WR Bd c E S0 S4 D := by
  obtain ⟨⟨⟨w0, w1⟩, w2, w3, w4, w5, w6, w7⟩, bc⟩ := h
  refine ⟨⟨⟨by rw [hI 47 (by decide)]; exact w0, by rw [hI 48 (by decide)]; exact w1⟩, fun i hi => by rw [hA 40 (by decide), hA 41 (by decide)]; exact w2 i hi, fun j hj => by rw [hA 42 (by decide)]; exact w3 j hj, fun i hi => WVi_eq (w4 i hi) rfl (by rw [hA 44 (by decide)]) (fun _ _ => rfl) (fun k _ => by rw [hA 43 (by decide)]), fun y hy => by rw [hA 45 (by decide)]; exact w5 y hy, by rw [hI 48 (by decide), hA 42 (by decide)]; exact w6, fun i s hi hs k => by rw [hA 42 (by decide)]; exact w7 i s hi hs k⟩, fun i hi ki no => ?_⟩
  rw [hA 40 (by decide)]
  rw [hA 45 (by decide)] at no
  exact bc i hi ki no
theorem WHL_KH {Bd : Nat} {S0 S4 S7 D : SS} (h : WHL Bd S0 S4 S7) (h46 : gI D 46 = gI S7 46) (h29 : gI D 29 = gI S7 29 ∧ gI D 30 = gI S7 30) (hA : ∀ k, k ≤ 19 → k ≠ 0 → gA D k = gA S7 k) (hB : gB D 11 = gB S7 11) (hW : ∀ k, 40 ≤ k → gA D k = gA S7 k) (hI : ∀ k, 46 ≤ k → gI D k = gI S7 k) : WHL Bd S0 S4 D := fun w => by
  rw [h46] at w
  obtain ⟨b, c, E, M, a, d⟩ := h w
  refine ⟨b, c, E, M, ?_, WR_KH d hW hI⟩
  obtain ⟨⟨a1, a2, a3, a4, a5⟩, c1, c2, c3, c4, ⟨o1, o2, o3, o4⟩, c5⟩ := a
  refine ⟨⟨a1, a2, a3, h29.1.trans a4, h29.2.trans a5⟩, fun i hi => ?_, fun i j hi hj => ?_, fun i j hi k hj => ?_, c4, ⟨o1, o2, o3, ?_⟩, c5⟩
  · rw [hB, hA 12 (by decide) (by decide), hA 13 (by decide) (by decide), hA 14 (by decide) (by decide), hA 15 (by decide) (by decide)]
    exact c1 i hi
  · rw [hA 16 (by decide) (by decide)]
    exact c2 i j hi hj
  · rw [hA 19 (by decide) (by decide)]
    exact c3 i j hi k hj
  · rw [hA 17 (by decide) (by decide)]
    exact o4
theorem WHL_KP {Bd : Nat} {S0 S4 S7 D : SS} (h : WHL Bd S0 S4 S7) (kp : KP S7 D) (kh : KH S7 D) : WHL Bd S0 S4 D := WHL_KH h kp.2.2.2 ⟨kp.1 29 (by decide), kp.1 30 (by decide)⟩ (fun k hk _ => kp.2.1 k (by omega)) (kp.2.2.1 11) kh.1 kh.2
theorem CE_SB {b c : Nat} {E : Nat → Nat → Prop} {M : Nat → Nat} {S0 Y Z : SS} (h : CE b c E M S0 Y) (hI : gI Z 29 = gI Y 29 ∧ gI Z 30 = gI Y 30) (sb : SB b Y Z) : CE b c E M S0 Z := by
  obtain ⟨⟨a1, a2, a3, a4, a5⟩, c1, c2, c3, c4, ⟨o1, o2, o3, o4⟩, c5⟩ := h
  obtain ⟨s1, s2, s3⟩ := sb
  have hE : ∀ i y, i < c → E i y → y < c := fun i y hi e => ((c4.1 i y hi).mp e).1
  have m12 : ∀ i j, i < c → j < HN M S0 i → j < 12 := fun i j hi hj => by
    have := (c1 i hi).2.2.2.2.1
    unfold HN at hj
    split at hj <;> omega
  refine ⟨⟨a1, a2, a3, hI.1.trans a4, hI.2.trans a5⟩, fun i hi => ?_, fun i j hi hj => ?_, fun i j hi k hj => ?_, c4, ⟨o1, o2, o3, fun i hi => ?_⟩, c5⟩
  · obtain ⟨b1, b2, b3, b4, b5, _⟩ := s1 i (by omega)
    rw [b1, b2, b3, b4, b5]
    exact c1 i hi
  · have := m12 i j hi hj
    have e := s2 (12 * i + j) (by omega)
    rw [show 720 * b + (12 * i + j) = 12 * (60 * b + i) + j by omega] at e
    rw [e]
    exact c2 i j hi hj
  · have := (c1 i hi).2.2.2.2.1
    have e := s3 (6 * i + j) (by omega)
    rw [show 360 * b + (6 * i + j) = 6 * (60 * b + i) + j by omega] at e
    rw [e]
    exact c3 i j hi k hj
  · have e : ∀ y, y < c → gA Z 17 (60 * b + y) = gA Y 17 (60 * b + y) := fun y hy => (s1 y (by omega)).2.2.2.2.2
    obtain ⟨m, m1, m2, m3, m4⟩ := o4 i hi
    refine ⟨m, by rw [e i hi]; exact m1, m2, fun y q => by rw [e y (hE i y hi q)]; exact m3 y q, ?_⟩
    rcases m4 with m4 | ⟨y, r, y1, y2, y3⟩
    · exact Or.inl m4
    · exact Or.inr ⟨y, r, y1, by rw [e y (hE i y hi y1)]; exact y2, y3⟩
theorem hd_of {b c : Nat} {E : Nat → Nat → Prop} {M : Nat → Nat} {S0 S7 : SS} (h : CE b c E M S0 S7) (h15 : ∀ j, IV 0 9 (gA S7 15 j)) : ∀ i, i < c → ∃ d, d ≤ 9 ∧ gA S0 6 i = nI d := fun i hi => by
  have q := h15 (60 * b + i)
  rw [(h.2.1 i hi).1.2.2] at q
  obtain ⟨q1, q2⟩ := q
  exact ⟨(gA S0 6 i).toInt.toNat, by omega, Int32.toInt_inj.mp (by rw [nI_toInt (by omega)]; omega)⟩
theorem WHL_ce {Bd : Nat} {S0 S4 S7 : SS} (cr : CR S0 S7) (h30 : IV 0 1 (gI S7 30)) (wl : WHL Bd S0 S4 S7) : ∃ b c E M, CE b c E M S0 S7 ∧ (¬ gI S7 46 = 0 → WR Bd c E S0 S4 S7) := by
  by_cases w : gI S7 46 = 0
  · obtain ⟨b, c, E, M, ce⟩ := CR_CE cr h30
    exact ⟨b, c, E, M, ce, fun q => absurd w q⟩
  · obtain ⟨b, c, E, M, ce, wr⟩ := wl w
    exact ⟨b, c, E, M, ce, fun _ => wr⟩
theorem WHL_put {k Bd : Nat} {S0 S6 S4 S7 T4 D : SS} {p1 p2 rx rm : Int32} (hB : Bd ≤ 2000000000) (wl : WHL Bd S0 S4 S7) (wh : gI S6 11 = gI S7 46) (kp : KP S7 D) (ex : f_X6_put S6 S0 S4 p1 p2 = some (rx, T4)) (em : f_X7_put S7 p1 p2 = some (rm, D)) (hk : Bd + 1 ≤ k) : WHL k S0 T4 D := fun w => by
  rw [kp.2.2.2] at w
  obtain ⟨b, c, E, M, a, d⟩ := wl w
  exact ⟨b, c, E, M, CE_f a ⟨kp.1 29 (by decide), kp.1 30 (by decide)⟩ (fun k hk => kp.2.1 k (by omega)) (kp.2.2.1 11), WR_mono (v_put a hB wh ex em d) hk⟩
theorem WHL_run {k Bd : Nat} {S0 S6 S4 S7 T4 D : SS} {p1 rx rm : Int32} (hB : Bd ≤ 1000000000) (ht : IV 0 900000000 (gI S7 47)) (h15 : ∀ j, IV 0 9 (gA S7 15 j)) (wl : WHL Bd S0 S4 S7) (wh : gI S6 11 = gI S7 46) (kp : KP S7 D) (ex : f_X6_run S6 S0 S4 p1 = some (rx, T4)) (em : f_X7_run S7 p1 = some (rm, D)) (hk : Bd + 3000 ≤ k) : rx = rm ∧ WHL k S0 T4 D := by
  by_cases w : gI S7 46 = 0
  · have e6 : f_X6_run S6 S0 S4 p1 = some (-1, S4) := E_y (wh.trans w) rfl
    have e7 : f_X7_run S7 p1 = some (-1, S7) := E_y w rfl
    rw [ex] at e6
    rw [em] at e7
    cases e6
    cases e7
    exact ⟨rfl, WHL_mono wl (by omega)⟩
  · obtain ⟨b, c, E, M, a, d⟩ := wl w
    obtain ⟨t1, t2⟩ := ht
    have et : gI S7 47 = nI (gI S7 47).toInt.toNat := Int32.toInt_inj.mp (by rw [nI_toInt (by omega)]; omega)
    obtain ⟨q1, q2⟩ := v_run a hB et (by omega) (hd_of a h15) w wh ex em d
    exact ⟨q1, fun _ => ⟨b, c, E, M, CE_f a ⟨kp.1 29 (by decide), kp.1 30 (by decide)⟩ (fun k hk => kp.2.1 k (by omega)) (kp.2.2.1 11), WR_mono q2 hk⟩⟩
theorem WHL_wheel {k : Nat} {S0 S6 S4 S7 A C D : SS} {rx rm : Int32} (cr : CR S0 S7) (h30 : IV 0 1 (gI S7 30)) (va : VAL S0 S6 S7) (kw : KW S7 D) (ex : f_X6_wheel S6 S0 S4 = some (rx, A, C)) (em : f_X7_wheel S7 = some (rm, D)) : WHL k S0 C D := fun _ => by
  obtain ⟨b, c, E, M, ce⟩ := CR_CE cr h30
  obtain ⟨C', eb, ex⟩ := zB_spec ex
  cases ex
  exact ⟨b, c, E, M, CE_f ce ⟨kw.1 29 (by decide), kw.1 30 (by decide)⟩ (fun k hk => kw.2.1 k (by omega)) (kw.2.2 11), WR_mono (WR_begin ce va eb em).1 (Nat.zero_le _)⟩
