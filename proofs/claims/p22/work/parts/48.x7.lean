/-! the reference's wheel and tape: no throw -/
theorem M7_44 {Zt B T B' : Int} {S : SS} {f : Nat → Int32} (h : M7 Zt B T S) (hf : AR 0 B' f) : M7 Zt B' T (sA S 44 f) := by
  obtain ⟨h1, h2, h3, h4, h5, h6⟩ := h
  refine ⟨N7_sA (by decide) h1, ?_, h3, ?_, h5, ?_⟩
  · rw [gA_eq]; exact hf
  · rw [gA_ne (by decide)]; exact h4
  · rw [gA_ne (by decide)]; exact h6
theorem M7_47 {Zt B T T' : Int} {S : SS} {v : Int32} (h : M7 Zt B T S) (hv : IV 0 T' v) : M7 Zt B T' (sI S 47 v) := by
  obtain ⟨h1, h2, h3, h4, h5, h6⟩ := h
  refine ⟨N7_sI (by decide) h1, h2, ?_, h4, ?_, h6⟩
  · rw [gI_eq]; exact hv
  · rw [gI_ne (by decide)]; exact h5
theorem k_X7_wheel {Zt B T : Int} {S7 : SS} (hB : 0 ≤ B) (hT : 0 ≤ T) (h : M7 Zt B T S7) : Ok (f_X7_wheel S7) (fun r => r.1 = 1 ∧ M7 Zt B T r.2 ∧ gI r.2 2 = gI S7 2) := by
  refine Ok_l (Ok_l (Ok_l ?_))
  have h0 : M7 Zt B T (sI (sI (sI S7 46 1) 47 0) 48 0) := M7_sI (by decide) (M7_47 (M7_sI (by decide) h) (IV_00 hT))
  refine Ok_F (fun v : Int32 × SS => IV 0 60 v.1 ∧ M7 Zt B T v.2 ∧ gI v.2 2 = gI S7 2) (fun v => (60 - v.1.toInt).toNat) (fun v hv => ?_) ⟨IV_00, h0, rfl⟩ (mz 60)
  obtain ⟨v, S⟩ := v
  obtain ⟨hv, hS, h2⟩ : IV 0 60 v ∧ M7 Zt B T S ∧ gI S 2 = gI S7 2 := hv
  refine Ok_c (fun _ => Ok_s ⟨rfl, hS, h2⟩) (fun c => ?_)
  have ⟨g1, g2, g3⟩ := k_lp (by decide) hv hS.1.2.1 c
  refine Ok_G (k_in60 g1) (Ok_L (fun A eA => Ok_L (fun C eC => Ok_L (fun D eD => Ok_L (fun E eE => ?_)))))
  have hA : M7 Zt B T A := by rw [eA]; exact M7_sA (by decide) hS
  have hC : M7 Zt B T C := by rw [eC]; exact M7_sA (by decide) hA
  have hD : M7 Zt B T D := by rw [eD]; exact M7_sA (by decide) hC
  have hE : M7 Zt B T E := by rw [eE]; exact M7_44 hD (AR_upd hD.2.1 (IV_00 hB))
  have e2 : gI E 2 = gI S7 2 := by rw [eE, eD, eC, eA]; exact h2
  refine Ok_B (P := fun S => M7 Zt B T S ∧ gI S 2 = gI S7 2) ?_ (fun F hF => Ok_l (Ok_s (OkI_l ⟨g2, hF⟩ g3)))
  refine Ok_F (fun v : Int32 × SS => IV 0 10 v.1 ∧ M7 Zt B T v.2 ∧ gI v.2 2 = gI S7 2) (fun v => (10 - v.1.toInt).toNat) (fun u hu => ?_) ⟨IV_00, hE, e2⟩ (mz 10)
  obtain ⟨u, U⟩ := u
  obtain ⟨hu, hU, hU2⟩ : IV 0 10 u ∧ M7 Zt B T U ∧ gI U 2 = gI S7 2 := hu
  refine Ok_c (fun _ => Ok_s ⟨hU, hU2⟩) (fun c => ?_)
  have ⟨k1, k2, k3⟩ := k_lp (n := 10) (by decide) hu (IV_lit (a := 0) (b := 10)) c
  have e : IV 0 599 ((10 : Int32) * v + u) := IV_add rfl (IV_mul (u := 0) (v := 590) rfl (IV_lit (a := 10) (b := 10)) g1 (by decide) (by decide) (by decide) (by decide) (by decide)) k1 (by decide) (by decide) (by decide) (by decide)
  exact Ok_G (IV_in e (by decide) (by decide)) (Ok_l (Ok_l (Ok_s (OkI_l ⟨k2, M7_sA (by decide) hU, hU2⟩ k3))))
/-- a change: one more is counted -/
theorem k_X7_change {Zt B T : Int} {S7 : SS} (hB0 : 0 ≤ B) (hB : B ≤ 2000000000) (h : M7 Zt B T S7) {p1 : Int32} (hp : IV 0 59 p1) (p2 : Int32) : Ok (f_X7_change S7 p1 p2) (fun S => M7 Zt (B + 1) T S ∧ gI S 2 = gI S7 2) := by
  refine Ok_G (k_in60 hp) (Ok_L (fun A eA => Ok_L (fun C eC => ?_)))
  have hA : M7 Zt B T A := by rw [eA]; exact M7_sA (by decide) h
  have hC : M7 Zt B T C := by rw [eC]; exact M7_sA (by decide) hA
  have e2 : gI C 2 = gI S7 2 := by rw [eC, eA]; rfl
  refine Ok_B (P := fun S => M7 Zt B T S ∧ gI S 2 = gI S7 2) (Ok_c (fun _ => Ok_s ⟨hC, e2⟩) (fun c => ?_)) (fun D hD => ?_)
  · have hw : IV 0 19 (gA C 44 p1.toNatClampNeg) := by
      obtain ⟨q1, q2⟩ := hC.2.1 p1.toNatClampNeg
      have t20 : (20 : Int32).toInt = 20 := by decide
      rw [ti_le, t20] at c
      exact ⟨q1, by omega⟩
    have e : IV 0 1199 ((20 : Int32) * p1 + gA C 44 p1.toNatClampNeg) := IV_add rfl (IV_mul (u := 0) (v := 1180) rfl (IV_lit (a := 20) (b := 20)) hp (by decide) (by decide) (by decide) (by decide) (by decide)) hw (by decide) (by decide) (by decide) (by decide)
    exact Ok_G (IV_in e (by decide) (by decide)) (Ok_l (Ok_s ⟨M7_sA (by decide) hC, e2⟩))
  · have e1 : IV 0 (B + 1) (gA D 44 p1.toNatClampNeg + (1 : Int32)) := by
      obtain ⟨q1, q2⟩ := hD.1.2.1 p1.toNatClampNeg
      have t1 : (1 : Int32).toInt = 1 := by decide
      have e : (gA D 44 p1.toNatClampNeg + (1 : Int32)).toInt = (gA D 44 p1.toNatClampNeg).toInt + 1 := by rw [ti_add (by rw [t1]; omega) (by rw [t1]; omega), t1]
      exact ⟨by rw [e]; omega, by rw [e]; omega⟩
    exact Ok_l (Ok_s ⟨M7_44 hD.1 (AR_upd (AR_wk hD.1.2.1 (Int.le_refl _) (by omega)) e1), hD.2⟩)
theorem k_X7_put {Zt B T : Int} {S7 : SS} (hB0 : 0 ≤ B) (hB : B ≤ 2000000000) (h : M7 Zt B T S7) (p1 p2 : Int32) : Ok (f_X7_put S7 p1 p2) (fun r => M7 Zt (B + 1) T r.2 ∧ gI r.2 2 = gI S7 2) := by
  have h1 : M7 Zt (B + 1) T S7 ∧ gI S7 2 = gI S7 2 := ⟨M7_mono h (by omega) (Int.le_refl _), rfl⟩
  refine Ok_c (fun _ => Ok_s h1) (fun _ => Ok_B (k_X7_isNode h.1 p1) (fun r hr => Ok_c (fun _ => Ok_s h1) (fun c => Ok_B (k_X7_kind h.1 (hr.2 c)) (fun _ _ => Ok_c (fun _ => Ok_c (fun _ => Ok_s h1) (fun _ => Ok_c (fun _ => ?_) (fun _ => Ok_s h1))) (fun _ => Ok_s h1)))))
  exact Ok_G (k_in60 (hr.2 c)) (Ok_c (fun _ => Ok_s h1) (fun _ => Ok_B (k_X7_change hB0 hB h (hr.2 c) p2) (fun S hS => Ok_s hS)))
theorem k_X7_hangs {S7 : SS} (h : N7 S7) {p1 : Int32} (hp : IV 0 119 p1) : Ok (f_X7_hangs S7 p1) (fun r => IV 0 12 r) := by
  refine Ok_G (k_in120 hp) (Ok_c (fun _ => Ok_s (IV_wk (h.2.2.2.1 _) (by decide) (by decide))) (fun _ => Ok_c (fun c => Ok_s ?_) (fun _ => Ok_s IV_00)))
  exact IV_mul rfl (IV_lit (a := 2) (b := 2)) (h.2.2.2.2.1 _ c) (by decide) (by decide) (by decide) (by decide) (by decide)
theorem k_X7_hasChanged {S7 : SS} (h : N7 S7) {p1 : Int32} (hp : IV 0 59 p1) : Ok (f_X7_hasChanged S7 p1) zb := by
  refine Ok_F (fun v : Int32 × Int32 => zb v.1 ∧ IV 0 12 v.2) (fun v => (12 - v.2.toInt).toNat) (fun v hv => ?_) ⟨Or.inl rfl, IV_00⟩ (mz 12)
  obtain ⟨a, v⟩ := v
  obtain ⟨ha, hv⟩ : zb a ∧ IV 0 12 v := hv
  refine Ok_B (k_X7_hangs h (k_ix h.1 hp)) (fun r hr => Ok_c (fun _ => Ok_G ha (Ok_s ha)) (fun c => ?_))
  have ⟨g1, g2, g3⟩ := k_lp (by decide) hv hr c
  refine Ok_c (fun _ => ?_) (fun _ => Ok_l (Ok_s (OkI_l ⟨Or.inr rfl, g2⟩ g3)))
  exact Ok_B (k_X7_in h hp g1) (fun r hr => Ok_G (k_in60 hr) (Ok_c (fun _ => Ok_l (Ok_s (OkI_l ⟨Or.inl rfl, g2⟩ g3))) (fun _ => Ok_l (Ok_s (OkI_l ⟨Or.inr rfl, g2⟩ g3)))))
/-- a slot of the wheel by NODE and time -/
theorem k_slot {v t : Int32} {T : Int} (hv : IV 0 59 v) (ht : IV 0 T t) : IV 0 599 ((10 : Int32) * v + (t - t / (10 : Int32) * (10 : Int32))) := by
  have hr : IV 0 9 (t - t / (10 : Int32) * (10 : Int32)) := IV_rem (c := 10) rfl ⟨ht.1, (ti_r t).2⟩ (by decide) (by decide) (by decide) (by decide) (by decide)
  exact IV_add rfl (IV_mul (u := 0) (v := 590) rfl (IV_lit (a := 10) (b := 10)) hv (by decide) (by decide) (by decide) (by decide) (by decide)) hr (by decide) (by decide) (by decide) (by decide)
theorem k_b0 (B : Int) : B ≤ B + (0 : Int32).toInt := by
  have t0 : (0 : Int32).toInt = 0 := by decide
  omega
/-- a look: at most 61 changes of a NODE are counted -/
theorem k_X7_looks {Zt B T : Int} {S7 : SS} (hB0 : 0 ≤ B) (hB : B ≤ 1000000000) (hT : T ≤ 1000000000) (h : M7 Zt B T S7) : Ok (f_X7_looks S7) (fun r => M7 Zt (B + 61) T r.2 ∧ gI r.2 2 = gI S7 2) := by
  refine Ok_B (P := fun r : Int32 × SS => M7 Zt (B + 61) T r.2 ∧ gI r.2 2 = gI S7 2) ?_ (fun w hw => ?_)
  · refine Ok_F (fun v : Int32 × Int32 × SS => IV 0 61 v.2.1 ∧ M7 Zt (B + v.2.1.toInt) T v.2.2 ∧ gI v.2.2 2 = gI S7 2) (fun v => (61 - v.2.1.toInt).toNat) (fun v hv => ?_) ⟨IV_00, M7_mono h (k_b0 B) (Int.le_refl _), rfl⟩ (mz 61)
    obtain ⟨a, v, S⟩ := v
    obtain ⟨hv, hS, h2⟩ : IV 0 61 v ∧ M7 Zt (B + v.toInt) T S ∧ gI S 2 = gI S7 2 := hv
    obtain ⟨v1, v2⟩ := id hv
    refine Ok_c (fun _ => Ok_s ⟨M7_mono hS (by omega) (Int.le_refl _), h2⟩) (fun c => ?_)
    have g1 : IV 0 60 v := IV_nlt_r c hS.1.2.1 hv (by decide) (by decide)
    have g2 : IV 0 61 (v + 1) := IV_add rfl g1 (IV_lit (a := 1) (b := 1)) (by decide) (by decide) (by decide) (by decide)
    have ev : (v + 1).toInt = v.toInt + 1 := IV_step rfl g1 (by decide) (by decide) (by decide)
    have g3 : (61 - (v + 1).toInt).toNat < (61 - v.toInt).toNat := by
      have := g1.2
      rw [ev]
      omega
    -- in one level each NODE at most once
    refine Ok_B (P := fun r : Int32 × SS => M7 Zt (B + v.toInt + 1) T r.2 ∧ gI r.2 2 = gI S7 2) ?_ (fun w hw => ?_)
    · refine Ok_F (fun u : Int32 × Int32 × SS => IV 0 60 u.2.1 ∧ M7 Zt (B + v.toInt + 1) T u.2.2 ∧ (∀ j : Nat, u.2.1.toInt ≤ (j : Int) → IV 0 (B + v.toInt) (gA u.2.2 44 j)) ∧ gI u.2.2 2 = gI S7 2) (fun u => (60 - u.2.1.toInt).toNat) (fun u hu => ?_) ⟨IV_00, M7_mono hS (by omega) (Int.le_refl _), fun j _ => hS.2.1 j, h2⟩ (mz 60)
      obtain ⟨b, u, U⟩ := u
      obtain ⟨hu, hU, hj, hU2⟩ : IV 0 60 u ∧ M7 Zt (B + v.toInt + 1) T U ∧ (∀ j : Nat, u.toInt ≤ (j : Int) → IV 0 (B + v.toInt) (gA U 44 j)) ∧ gI U 2 = gI S7 2 := hu
      refine Ok_c (fun _ => Ok_s ⟨hU, hU2⟩) (fun c => ?_)
      have ⟨k1, k2, k3, k4, k5⟩ := lp_up (by decide) hu hU.1.2.1.2 c
      have hj' : ∀ j : Nat, (u + 1).toInt ≤ (j : Int) → IV 0 (B + v.toInt) (gA U 44 j) := fun j q => hj j (by omega)
      have same : OkI (fun u : Int32 × Int32 × SS => IV 0 60 u.2.1 ∧ M7 Zt (B + v.toInt + 1) T u.2.2 ∧ (∀ j : Nat, u.2.1.toInt ≤ (j : Int) → IV 0 (B + v.toInt) (gA u.2.2 44 j)) ∧ gI u.2.2 2 = gI S7 2) (fun u => (60 - u.2.1.toInt).toNat) (fun r : Int32 × SS => M7 Zt (B + v.toInt + 1) T r.2 ∧ gI r.2 2 = gI S7 2) (b, u, U) (Sum.inl (b, u + 1, U)) := OkI_l ⟨k2, hU, hj', hU2⟩ k3
      refine Ok_G (k_in120 (k_ix hU.1.1 k1)) (Ok_c (fun _ => ?_) (fun _ => Ok_l (Ok_s same)))
      refine Ok_B (k_X7_kind hU.1 k1) (fun r hr => Ok_c (fun c1 => ?_) (fun _ => Ok_l (Ok_s same)))
      refine Ok_B (k_X7_bus hU.1 k1 (hr.symm.trans c1) 40) (fun r6 _ => Ok_G (k_in60 k1) (Ok_c (fun _ => Ok_l (Ok_s same)) (fun _ => ?_)))
      refine Ok_B (k_X7_hasChanged hU.1 k1) (fun _ _ => Ok_c (fun _ => Ok_l (Ok_s same)) (fun _ => ?_))
      refine Ok_B (x := f_X7_change U u r6) (P := fun X => M7 Zt (B + v.toInt + 1) T X ∧ (∀ j : Nat, (u + 1).toInt ≤ (j : Int) → IV 0 (B + v.toInt) (gA X 44 j)) ∧ gI X 2 = gI S7 2) ?_ (fun X hX => Ok_l (Ok_l (Ok_s (OkI_l ⟨k2, hX.1, hX.2.1, hX.2.2⟩ k3))))
      -- this NODE's count was not over B + v yet
      have hu0 := hj u.toNatClampNeg (by rw [ti_nat k1.1]; exact Int.le_refl _)
      obtain ⟨w1, w2⟩ := hu0
      refine Ok_G (k_in60 k1) (Ok_L (fun A eA => Ok_L (fun C eC => ?_)))
      have hA : M7 Zt (B + v.toInt + 1) T A := by rw [eA]; exact M7_sA (by decide) hU
      have hC : M7 Zt (B + v.toInt + 1) T C := by rw [eC]; exact M7_sA (by decide) hA
      have e2 : gI C 2 = gI S7 2 := by rw [eC, eA]; exact hU2
      have e44 : gA C 44 = gA U 44 := by rw [eC, gA_ne (by decide), eA, gA_ne (by decide)]
      refine Ok_B (P := fun S => M7 Zt (B + v.toInt + 1) T S ∧ gI S 2 = gI S7 2 ∧ gA S 44 = gA U 44) (Ok_c (fun _ => Ok_s ⟨hC, e2, e44⟩) (fun c => ?_)) (fun D hD => ?_)
      · have hw : IV 0 19 (gA C 44 u.toNatClampNeg) := by
          have t20 : (20 : Int32).toInt = 20 := by decide
          rw [ti_le, t20] at c
          exact ⟨by rw [e44]; exact w1, by omega⟩
        have e : IV 0 1199 ((20 : Int32) * u + gA C 44 u.toNatClampNeg) := IV_add rfl (IV_mul (u := 0) (v := 1180) rfl (IV_lit (a := 20) (b := 20)) k1 (by decide) (by decide) (by decide) (by decide) (by decide)) hw (by decide) (by decide) (by decide) (by decide)
        exact Ok_G (IV_in e (by decide) (by decide)) (Ok_l (Ok_s ⟨M7_sA (by decide) hC, e2, by rw [gA_ne (by decide)]; exact e44⟩))
      · have e1 : IV 0 (B + v.toInt + 1) (gA D 44 u.toNatClampNeg + (1 : Int32)) := by
          rw [hD.2.2]
          have t1 : (1 : Int32).toInt = 1 := by decide
          have e : (gA U 44 u.toNatClampNeg + (1 : Int32)).toInt = (gA U 44 u.toNatClampNeg).toInt + 1 := by rw [ti_add (by rw [t1]; omega) (by rw [t1]; omega), t1]
          exact ⟨by rw [e]; omega, by rw [e]; omega⟩
        refine Ok_l (Ok_s ⟨M7_44 hD.1 (AR_upd hD.1.2.1 e1), fun j hjj => ?_, hD.2.1⟩)
        rw [gA_eq]
        have hne : j ≠ u.toNatClampNeg := by
          intro q
          have := ti_nat k1.1
          omega
        rw [upd_at, if_neg hne, hD.2.2]
        exact hj' j hjj
    · obtain ⟨b, U⟩ := w
      refine Ok_l (Ok_s (OkI_l ⟨g2, ?_, hw.2⟩ g3))
      show M7 Zt (B + (v + 1).toInt) T U
      rw [ev, ← Int.add_assoc]
      exact hw.1
  · obtain ⟨a, S⟩ := w
    obtain ⟨hS, h2⟩ : M7 Zt (B + 61) T S ∧ gI S 2 = gI S7 2 := hw
    refine Ok_B (P := fun X => M7 Zt (B + 61) T X ∧ gI X 2 = gI S7 2) ?_ (fun X hX => ?_)
    · refine Ok_F (fun v : Int32 × SS => IV 0 60 v.1 ∧ M7 Zt (B + 61) T v.2 ∧ gI v.2 2 = gI S7 2) (fun v => (60 - v.1.toInt).toNat) (fun v hv => ?_) ⟨IV_00, hS, h2⟩ (mz 60)
      obtain ⟨v, U⟩ := v
      obtain ⟨hv, hU, hU2⟩ : IV 0 60 v ∧ M7 Zt (B + 61) T U ∧ gI U 2 = gI S7 2 := hv
      refine Ok_c (fun _ => Ok_s ⟨hU, hU2⟩) (fun c => ?_)
      have ⟨g1, g2, g3⟩ := k_lp (by decide) hv hU.1.2.1 c
      refine Ok_B (k_X7_kind hU.1 g1) (fun _ _ => Ok_c (fun _ => ?_) (fun _ => Ok_l (Ok_s (OkI_l ⟨g2, hU, hU2⟩ g3))))
      refine Ok_B (k_X7_hasChanged hU.1 g1) (fun _ _ => Ok_c (fun _ => Ok_l (Ok_s (OkI_l ⟨g2, hU, hU2⟩ g3))) (fun _ => ?_))
      refine Ok_B (k_X7_gate hU.1 g1 40) (fun r _ => Ok_G (k_in60 g1) (Ok_c (fun _ => Ok_l (Ok_s (OkI_l ⟨g2, hU, hU2⟩ g3))) (fun _ => Ok_L (fun A eA => ?_))))
      have hA : M7 Zt (B + 61) T A := by rw [eA]; exact M7_sA (by decide) hU
      have eA2 : gI A 2 = gI S7 2 := by rw [eA]; exact hU2
      have hd := hA.1.2.2.2.2.2 ((60 : Int32) * gI A 30 + v).toNatClampNeg
      have ht : IV 0 (T + 9) (gI A 47 + gA A 15 ((60 : Int32) * gI A 30 + v).toNatClampNeg) := by
        obtain ⟨q1, q2⟩ := hA.2.2.1
        obtain ⟨q3, q4⟩ := hd
        have e : (gI A 47 + gA A 15 ((60 : Int32) * gI A 30 + v).toNatClampNeg).toInt = (gI A 47).toInt + (gA A 15 ((60 : Int32) * gI A 30 + v).toNatClampNeg).toInt := ti_add (by omega) (by omega)
        exact ⟨by rw [e]; omega, by rw [e]; omega⟩
      refine Ok_G (k_in120 (k_ix hA.1.1 g1)) (Ok_l (Ok_G (IV_in (k_slot g1 ht) (by decide) (by decide)) ?_))
      refine Ok_B (P := fun _ => True) (Ok_c (fun _ => Ok_s trivial) (fun _ => Ok_s trivial)) (fun b _ => ?_)
      exact Ok_l (Ok_l (Ok_l (Ok_s (OkI_l ⟨g2, M7_sA (by decide) (M7_sI (by decide) hA), eA2⟩ g3))))
    · refine Ok_F (fun v : Int32 × SS => IV 0 60 v.1 ∧ M7 Zt (B + 61) T v.2 ∧ gI v.2 2 = gI S7 2) (fun v => (60 - v.1.toInt).toNat) (fun v hv => ?_) ⟨IV_00, hX.1, hX.2⟩ (mz 60)
      obtain ⟨v, U⟩ := v
      obtain ⟨hv, hU, hU2⟩ : IV 0 60 v ∧ M7 Zt (B + 61) T U ∧ gI U 2 = gI S7 2 := hv
      refine Ok_c (fun _ => Ok_s ⟨hU, hU2⟩) (fun c => ?_)
      have ⟨g1, g2, g3⟩ := k_lp (by decide) hv hU.1.2.1 c
      exact Ok_G (k_in60 g1) (Ok_l (Ok_l (Ok_s (OkI_l ⟨g2, M7_sA (by decide) hU, hU2⟩ g3))))
