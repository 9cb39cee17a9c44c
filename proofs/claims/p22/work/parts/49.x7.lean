theorem k_b1 (B : Int) : B ≤ B + 62 * (0 : Int32).toInt := by
  have t0 : (0 : Int32).toInt = 0 := by decide
  omega
/-- a change of a NODE whose count was not over B: those behind it keep their bound -/
theorem k_X7_chg {Zt B T : Int} {U : SS} (hB0 : 0 ≤ B) (hB : B ≤ 2000000000) (hU : M7 Zt (B + 1) T U) {u : Int32} (k1 : IV 0 59 u) (p2 : Int32) (hj : ∀ j : Nat, u.toInt ≤ (j : Int) → IV 0 B (gA U 44 j)) : Ok (f_X7_change U u p2) (fun X => M7 Zt (B + 1) T X ∧ (∀ j : Nat, u.toInt + 1 ≤ (j : Int) → IV 0 B (gA X 44 j)) ∧ gI X 2 = gI U 2) := by
  have hu0 := hj u.toNatClampNeg (by rw [ti_nat k1.1]; exact Int.le_refl _)
  obtain ⟨w1, w2⟩ := hu0
  refine Ok_G (k_in60 k1) (Ok_L (fun A eA => Ok_L (fun C eC => ?_)))
  have hA : M7 Zt (B + 1) T A := by rw [eA]; exact M7_sA (by decide) hU
  have hC : M7 Zt (B + 1) T C := by rw [eC]; exact M7_sA (by decide) hA
  have e2 : gI C 2 = gI U 2 := by rw [eC, eA]; rfl
  have e44 : gA C 44 = gA U 44 := by rw [eC, gA_ne (by decide), eA, gA_ne (by decide)]
  refine Ok_B (P := fun S => M7 Zt (B + 1) T S ∧ gI S 2 = gI U 2 ∧ gA S 44 = gA U 44) (Ok_c (fun _ => Ok_s ⟨hC, e2, e44⟩) (fun c => ?_)) (fun D hD => ?_)
  · have hw : IV 0 19 (gA C 44 u.toNatClampNeg) := by
      have t20 : (20 : Int32).toInt = 20 := by decide
      rw [ti_le, t20] at c
      exact ⟨by rw [e44]; exact w1, by omega⟩
    have e : IV 0 1199 ((20 : Int32) * u + gA C 44 u.toNatClampNeg) := IV_add rfl (IV_mul (u := 0) (v := 1180) rfl (IV_lit (a := 20) (b := 20)) k1 (by decide) (by decide) (by decide) (by decide) (by decide)) hw (by decide) (by decide) (by decide) (by decide)
    exact Ok_G (IV_in e (by decide) (by decide)) (Ok_l (Ok_s ⟨M7_sA (by decide) hC, e2, by rw [gA_ne (by decide)]; exact e44⟩))
  · have e1 : IV 0 (B + 1) (gA D 44 u.toNatClampNeg + (1 : Int32)) := by
      rw [hD.2.2]
      have t1 : (1 : Int32).toInt = 1 := by decide
      have e : (gA U 44 u.toNatClampNeg + (1 : Int32)).toInt = (gA U 44 u.toNatClampNeg).toInt + 1 := by rw [ti_add (by rw [t1]; omega) (by rw [t1]; omega), t1]
      exact ⟨by rw [e]; omega, by rw [e]; omega⟩
    refine Ok_l (Ok_s ⟨M7_44 hD.1 (AR_upd hD.1.2.1 e1), fun j hjj => ?_, hD.2.1⟩)
    rw [gA_eq]
    have hne : j ≠ u.toNatClampNeg := by
      intro q
      have := ti_nat k1.1
      omega
    rw [upd_at, if_neg hne, hD.2.2]
    exact hj j (by omega)
theorem k_X7_run {Zt B T : Int} {S7 : SS} (hB0 : 0 ≤ B) (hB : B ≤ 900000000) (hT : T ≤ 900000000) (h : M7 Zt B T S7) (p1 : Int32) : Ok (f_X7_run S7 p1) (fun r => M7 Zt (B + 70000) (T + 1000) r.2 ∧ gI r.2 2 = gI S7 2) := by
  have h1 : M7 Zt (B + 70000) (T + 1000) S7 ∧ gI S7 2 = gI S7 2 := ⟨M7_mono h (by omega) (by omega), rfl⟩
  refine Ok_c (fun _ => Ok_s h1) (fun _ => Ok_c (fun _ => Ok_s h1) (fun c => Ok_c (fun c2 => ?_) (fun _ => Ok_s h1)))
  have hp0 : IV 0 2147483647 p1 := IV_nlt_l c (IV_top p1) (IV_lit (a := 0) (b := 0)) (by decide) (by decide)
  have hp : IV 0 1000 p1 := IV_le_l c2 hp0 (IV_lit (a := 1000) (b := 1000)) (by decide) (by decide)
  refine Ok_B (k_X7_looks hB0 (by omega) (by omega) h) (fun w hw => ?_)
  obtain ⟨r, A⟩ := w
  obtain ⟨hA, hA2⟩ : M7 Zt (B + 61) T A ∧ gI A 2 = gI S7 2 := hw
  refine Ok_F (fun v : Int32 × Int32 × SS => IV 0 1000 v.2.1 ∧ M7 Zt (B + 61 + 62 * v.2.1.toInt) (T + v.2.1.toInt) v.2.2 ∧ gI v.2.2 2 = gI S7 2) (fun v => (1000 - v.2.1.toInt).toNat) (fun v hv => ?_) ⟨IV_00, M7_mono hA (by show B + 61 ≤ B + 61 + 62 * (0 : Int32).toInt; exact k_b1 _) (k_b0 T), hA2⟩ (mz 1000)
  obtain ⟨a, v, S⟩ := v
  obtain ⟨hv, hS, h2⟩ : IV 0 1000 v ∧ M7 Zt (B + 61 + 62 * v.toInt) (T + v.toInt) S ∧ gI S 2 = gI S7 2 := hv
  obtain ⟨v1, v2⟩ := id hv
  refine Ok_c (fun _ => Ok_s ⟨M7_mono hS (by omega) (by omega), h2⟩) (fun c => ?_)
  have ⟨g1, g2, g3, g4, g5⟩ := lp_up (by decide) hv hp.2 c
  have et : IV 0 (T + v.toInt + 1) (gI S 47 + (1 : Int32)) := by
    obtain ⟨q1, q2⟩ := hS.2.2.1
    have t1 : (1 : Int32).toInt = 1 := by decide
    have e : (gI S 47 + (1 : Int32)).toInt = (gI S 47).toInt + 1 := by rw [ti_add (by rw [t1]; omega) (by rw [t1]; omega), t1]
    exact ⟨by rw [e]; omega, by rw [e]; omega⟩
  refine Ok_L (fun C eC => ?_)
  have hC : M7 Zt (B + 61 + 62 * v.toInt) (T + v.toInt + 1) C := by rw [eC]; exact M7_47 hS et
  have eC2 : gI C 2 = gI S7 2 := by rw [eC]; exact h2
  refine Ok_B (P := fun r : Int32 × SS => M7 Zt (B + 61 + 62 * v.toInt + 1) (T + v.toInt + 1) r.2 ∧ gI r.2 2 = gI S7 2) ?_ (fun w hw => ?_)
  · refine Ok_F (fun u : Int32 × Int32 × SS => IV 0 60 u.2.1 ∧ M7 Zt (B + 61 + 62 * v.toInt + 1) (T + v.toInt + 1) u.2.2 ∧ (∀ j : Nat, u.2.1.toInt ≤ (j : Int) → IV 0 (B + 61 + 62 * v.toInt) (gA u.2.2 44 j)) ∧ gI u.2.2 2 = gI S7 2) (fun u => (60 - u.2.1.toInt).toNat) (fun u hu => ?_) ⟨IV_00, M7_mono hC (by omega) (Int.le_refl _), fun j _ => hC.2.1 j, eC2⟩ (mz 60)
    obtain ⟨b, u, U⟩ := u
    obtain ⟨hu, hU, hj, hU2⟩ : IV 0 60 u ∧ M7 Zt (B + 61 + 62 * v.toInt + 1) (T + v.toInt + 1) U ∧ (∀ j : Nat, u.toInt ≤ (j : Int) → IV 0 (B + 61 + 62 * v.toInt) (gA U 44 j)) ∧ gI U 2 = gI S7 2 := hu
    refine Ok_c (fun _ => Ok_s ⟨hU, hU2⟩) (fun c => ?_)
    have ⟨k1, k2, k3, k4, k5⟩ := lp_up (by decide) hu hU.1.2.1.2 c
    have hj' : ∀ j : Nat, (u + 1).toInt ≤ (j : Int) → IV 0 (B + 61 + 62 * v.toInt) (gA U 44 j) := fun j q => hj j (by omega)
    refine Ok_l (Ok_G (IV_in (k_slot k1 hU.2.2.1) (by decide) (by decide)) (Ok_c (fun _ => ?_) (fun _ => Ok_l (Ok_s (OkI_l ⟨k2, hU, hj', hU2⟩ k3)))))
    refine Ok_l (Ok_L (fun X eX => Ok_L (fun Y eY => Ok_G (k_in60 k1) ?_)))
    have hX : M7 Zt (B + 61 + 62 * v.toInt + 1) (T + v.toInt + 1) X := by rw [eX]; exact M7_sA (by decide) hU
    have hY : M7 Zt (B + 61 + 62 * v.toInt + 1) (T + v.toInt + 1) Y := by rw [eY]; exact M7_sI (by decide) hX
    have eY2 : gI Y 2 = gI S7 2 := by rw [eY, eX]; exact hU2
    have eY44 : gA Y 44 = gA U 44 := by rw [eY, gA_sI, eX, gA_ne (by decide)]
    refine Ok_c (fun _ => Ok_l (Ok_s (OkI_l ⟨k2, hY, fun j q => by show IV 0 _ (gA Y 44 j); rw [eY44]; exact hj' j q, eY2⟩ k3))) (fun _ => ?_)
    have hu0 := hj u.toNatClampNeg (by rw [ti_nat k1.1]; exact Int.le_refl _)
    refine Ok_B (k_X7_chg (B := B + 61 + 62 * v.toInt) (by omega) (by omega) hY k1 _ (fun j q => by rw [eY44]; exact hj j q)) (fun Z hZ => Ok_l (Ok_l (Ok_s (OkI_l ⟨k2, hZ.1, fun j (q : (u + 1).toInt ≤ (j : Int)) => hZ.2.1 j (by omega), hZ.2.2.trans eY2⟩ k3))))
  · obtain ⟨b, U⟩ := w
    obtain ⟨hU, hU2⟩ : M7 Zt (B + 61 + 62 * v.toInt + 1) (T + v.toInt + 1) U ∧ gI U 2 = gI S7 2 := hw
    refine Ok_B (k_X7_looks (by omega) (by omega) (by omega) hU) (fun w hw => ?_)
    obtain ⟨r2, X⟩ := w
    refine Ok_l (Ok_l (Ok_s (OkI_l ⟨g2, ?_, hw.2.trans hU2⟩ g3)))
    show M7 Zt (B + 61 + 62 * (v + 1).toInt) (T + (v + 1).toInt) X
    rw [g5]
    exact M7_mono hw.1 (by omega) (by omega)
theorem k_X7_on {S7 : SS} (h : N7 S7) (p1 : Int32) : Ok (f_X7_on S7 p1) (fun _ => True) := Ok_c (fun _ => Ok_s trivial) (fun _ => Ok_B (k_X7_isNode h p1) (fun r hr => Ok_c (fun _ => Ok_s trivial) (fun c => Ok_G (k_in60 (hr.2 c)) (Ok_s trivial))))
theorem k_X7_wave {S7 : SS} (h : N7 S7) (p1 p2 : Int32) : Ok (f_X7_wave S7 p1 p2) (fun _ => True) := by
  refine Ok_c (fun _ => Ok_s trivial) (fun _ => Ok_B (k_X7_isNode h p1) (fun r hr => Ok_c (fun _ => Ok_s trivial) (fun c => Ok_c (fun _ => Ok_s trivial) (fun c1 => Ok_G (k_in60 (hr.2 c)) (Ok_c (fun _ => Ok_s trivial) (fun _ => Ok_c (fun c2 => ?_) (fun _ => Ok_s trivial)))))))
  have h1 : IV 0 2147483647 p2 := IV_nlt_l c1 (IV_top p2) (IV_lit (a := 0) (b := 0)) (by decide) (by decide)
  have h2 : IV 0 19 p2 := IV_lt_l c2 h1 (IV_lit (a := 20) (b := 20)) (by decide) (by decide)
  have e : IV 0 1199 ((20 : Int32) * p1 + p2) := IV_add rfl (IV_mul (u := 0) (v := 1180) rfl (IV_lit (a := 20) (b := 20)) (hr.2 c) (by decide) (by decide) (by decide) (by decide) (by decide)) h2 (by decide) (by decide) (by decide) (by decide)
  exact Ok_G (IV_in e (by decide) (by decide)) (Ok_s trivial)
theorem k_X7_isQuiet {S7 : SS} (h : N7 S7) : Ok (f_X7_isQuiet S7) zb := by
  refine Ok_B (P := zb) (Ok_c (fun _ => Ok_s (Or.inr rfl)) (fun _ => Ok_s (Or.inl rfl))) (fun v7 h7 => ?_)
  refine Ok_F (fun v : Int32 × Int32 => zb v.1 ∧ IV 0 60 v.2) (fun v => (60 - v.2.toInt).toNat) (fun v hv => ?_) ⟨h7, IV_00⟩ (mz 60)
  obtain ⟨a, v⟩ := v
  obtain ⟨ha, hv⟩ : zb a ∧ IV 0 60 v := hv
  refine Ok_c (fun _ => Ok_G ha (Ok_s ha)) (fun c => ?_)
  have ⟨g1, g2, g3⟩ := k_lp (by decide) hv h.2.1 c
  exact Ok_c (fun _ => Ok_l (Ok_s (OkI_l ⟨Or.inl rfl, g2⟩ g3))) (fun _ => Ok_G (k_in60 g1) (Ok_c (fun _ => Ok_l (Ok_s (OkI_l ⟨Or.inr rfl, g2⟩ g3))) (fun _ => Ok_l (Ok_s (OkI_l ⟨Or.inl rfl, g2⟩ g3)))))
theorem k_X7_about {Zt B T : Int} {S7 : SS} (h : M7 Zt B T S7) (p1 : Int32) : Ok (f_X7_about S7 p1) (fun r => M7 Zt B T r.2 ∧ gI r.2 2 = gI S7 2) := by
  refine Ok_B (k_X7_find h) (fun S hS => ?_)
  have q : M7 Zt B T S ∧ gI S 2 = gI S7 2 := ⟨hS.1, hS.2.1⟩
  repeat' (first | exact Ok_s q | exact Ok_B (k_X7_isQuiet hS.1.1) (fun _ _ => Ok_c (fun _ => Ok_s q) (fun _ => Ok_s q)) | refine Ok_c (fun _ => ?_) (fun _ => ?_))
theorem M7_2 {Zt Zt' B T : Int} {S : SS} {v : Int32} (h : M7 Zt B T S) (hv : IV 0 Zt' v) : M7 Zt' B T (sI S 2 v) := by
  obtain ⟨h1, h2, h3, h4, h5, h6⟩ := h
  refine ⟨N7_sI (by decide) h1, h2, ?_, h4, ?_, h6⟩
  · rw [gI_ne (by decide)]; exact h3
  · rw [gI_eq]; exact hv
theorem k_X7_feed {B T : Int} {S7 : SS} (h : M7 2000 B T S7) (p1 p2 p3 p4 p5 : Int32) : Ok (f_X7_feed S7 p1 p2 p3 p4 p5) (fun r => M7 2000 B T r.2 ∧ if (gI S7 2).toInt + 20 ≤ 2000 then (gI r.2 2).toInt = (gI S7 2).toInt + 20 ∧ r.1 = gI r.2 2 else r.1 = -1 ∧ gI r.2 2 = gI S7 2) := by
  obtain ⟨a1, a2⟩ := h.2.2.2.2.1
  have t20 : (20 : Int32).toInt = 20 := by decide
  have t2 : (2000 : Int32).toInt = 2000 := by decide
  have e : (gI S7 2 + (20 : Int32)).toInt = (gI S7 2).toInt + 20 := by rw [ti_add (by rw [t20]; omega) (by rw [t20]; omega), t20]
  refine Ok_c (fun c => ?_) (fun c => Ok_s ?_)
  · rw [ti_le, e, t2] at c
    refine Ok_B (P := fun S => M7 2000 B T S ∧ gI S 2 = gI S7 2) ?_ (fun S hS => ?_)
    · refine Ok_F (fun v : Int32 × SS => IV 0 20 v.1 ∧ M7 2000 B T v.2 ∧ gI v.2 2 = gI S7 2) (fun v => (20 - v.1.toInt).toNat) (fun v hv => ?_) ⟨IV_00, h, rfl⟩ (mz 20)
      obtain ⟨v, S⟩ := v
      obtain ⟨hv, hS, h2⟩ : IV 0 20 v ∧ M7 2000 B T S ∧ gI S 2 = gI S7 2 := hv
      refine Ok_c (fun _ => Ok_s ⟨hS, h2⟩) (fun c1 => ?_)
      have ⟨g1, g2, g3⟩ := k_lp (n := 20) (by decide) hv (IV_lit (a := 0) (b := 20)) c1
      obtain ⟨b1, b2⟩ := id g1
      refine Ok_B (P := fun _ => True) ?_ (fun w _ => ?_)
      · repeat' (first | exact Ok_s trivial | refine Ok_c (fun _ => ?_) (fun _ => ?_))
      · have e2 : (gI S 2 + v).toInt = (gI S 2).toInt + v.toInt := ti_add (by rw [h2]; omega) (by rw [h2]; omega)
        exact Ok_G (ti_in (by rw [e2, h2]; omega) (by rw [e2, h2]; omega)) (Ok_l (Ok_l (Ok_s (OkI_l ⟨g2, M7_sA (by decide) hS, h2⟩ g3))))
    · have e2 : (gI S 2 + (20 : Int32)).toInt = (gI S7 2).toInt + 20 := by rw [hS.2]; exact e
      refine Ok_l (Ok_s ⟨M7_2 hS.1 ⟨by rw [e2]; omega, by rw [e2]; omega⟩, ?_⟩)
      rw [if_pos c]
      exact ⟨e2, rfl⟩
  · rw [ti_le, e, t2] at c
    rw [if_neg c]
    exact ⟨h, rfl, rfl⟩
theorem k_X7_end {B T : Int} {S7 : SS} (h : M7 2000 B T S7) (p1 : Int32) : Ok (f_X7_end S7 p1) (fun r => M7 2000 B T r.2 ∧ if 0 ≤ p1.toInt ∧ p1.toInt ≤ (gI S7 2).toInt then gI r.2 2 = p1 ∧ r.1 = p1 else r.1 = -1 ∧ gI r.2 2 = gI S7 2) := by
  obtain ⟨a1, a2⟩ := h.2.2.2.2.1
  have t0 : (0 : Int32).toInt = 0 := by decide
  refine Ok_c (fun c => Ok_s ?_) (fun c => Ok_c (fun c2 => Ok_l (Ok_s ?_)) (fun c2 => Ok_s ?_))
  · rw [ti_lt, t0] at c
    rw [if_neg (by omega)]
    exact ⟨h, rfl, rfl⟩
  · rw [ti_lt, t0] at c
    rw [ti_le] at c2
    rw [if_pos ⟨by omega, by omega⟩]
    exact ⟨M7_2 h ⟨by omega, by omega⟩, rfl, rfl⟩
  · rw [ti_le] at c2
    rw [if_neg (by omega)]
    exact ⟨h, rfl, rfl⟩
