/-! NAMES found -/
theorem newOf_eq {S X : SS} (h1 : gI X 26 = gI S 26) (h2 : gI X 30 = gI S 30) (h3 : gB X 11 = gB S 11) (p : Int64) : f_X7_newOf X p = f_X7_newOf S p := by
  have e : b_X7_newOf_2 X p = b_X7_newOf_2 S p := by
    funext v
    unfold b_X7_newOf_2
    rw [h1, h2, h3]
  unfold f_X7_newOf
  rw [e]
/-- the NAME that is asked for as number j is told; a BUS's where it must be one -/
def FO (S : SS) (j : Nat) : Prop := ∃ r : Int32, f_X7_newOf S (gB S 20 j) = some r ∧ IV 0 59 r ∧ r.toInt < aR S ∧ gB S 11 ((60 : Int32) * gI S 30 + r).toNatClampNeg = gB S 20 j ∧ (gA S 22 j = -1 → gA S 12 ((60 : Int32) * gI S 30 + r).toNatClampNeg = 1)
theorem k_X7_isOfDriver {S : SS} (h1 : aD S ≤ 200) (p1 : Int32) : Ok (f_X7_isOfDriver S p1) zb := by
  refine Ok_F (fun v : Int32 × Int32 => zb v.1 ∧ IV 0 200 v.2) (fun v => (200 - v.2.toInt).toNat) (fun v hv => ?_) ⟨Or.inl rfl, IV_00⟩ (mz 200)
  obtain ⟨x, v⟩ := v
  obtain ⟨hx, hv⟩ : zb x ∧ IV 0 200 v := hv
  refine Ok_c (fun _ => Ok_G hx (Ok_s hx)) (fun c => ?_)
  have ⟨g1, g2, g3, g4, g5⟩ := lp_up (N := 200) (by decide) hv h1 c
  refine Ok_c (fun _ => Ok_G (IV_in g1 (by decide) (by decide)) ?_) (fun _ => Ok_l (Ok_s (OkI_l ⟨Or.inr rfl, g2⟩ g3)))
  exact Ok_c (fun _ => Ok_l (Ok_s (OkI_l ⟨Or.inr rfl, g2⟩ g3))) (fun _ => Ok_c (fun _ => Ok_l (Ok_s (OkI_l ⟨Or.inr rfl, g2⟩ g3))) (fun _ => Ok_l (Ok_s (OkI_l ⟨Or.inl rfl, g2⟩ g3))))
theorem k_X7_resolve_2 {Zt B T : Int} {S : SS} (h : PI Zt B T S) (h1 : aA S ≤ 1000) (v : Int32 × SS) (hv : IV 0 1000 v.1 ∧ FF S v.2 ∧ (GD v.2 → ∀ j : Nat, (j : Int) < v.1.toInt → FO S j)) : Ok (b_X7_resolve_2 v) (OkI (fun v : Int32 × SS => IV 0 1000 v.1 ∧ FF S v.2 ∧ (GD v.2 → ∀ j : Nat, (j : Int) < v.1.toInt → FO S j)) (fun v => (1000 - v.1.toInt).toNat) (fun X => FF S X ∧ (GD X → ∀ j : Nat, (j : Int) < aA S → FO S j)) v) := by
  obtain ⟨v, X⟩ := v
  obtain ⟨hv, fX, gX⟩ : IV 0 1000 v ∧ FF S X ∧ (GD X → ∀ j : Nat, (j : Int) < v.toInt → FO S j) := hv
  have e27 : (gI X 27).toInt = aA S := by rw [FF_i fX (by decide)]; rfl
  refine Ok_c (fun c => Ok_s ⟨fX, fun q j hj => gX q j ?_⟩) (fun c => ?_)
  · rw [ti_le, e27] at c
    omega
  · have ⟨g1, g2, g3, g4, g5⟩ := lp_up (N := 1000) (by decide) hv (by rw [e27]; exact h1) c
    have nv := ti_nat g1.1
    refine Ok_B (k_X7_isGood X) (fun r hr => Ok_c (fun c2 => Ok_s ⟨fX, fun q => absurd q (hr.mp c2)⟩) (fun c2 => ?_))
    have gd : GD X := Classical.byContradiction (fun q => c2 (hr.mpr q))
    have old := gX gd
    have bad : ∀ p2 : Int32, Ok (zB (f_X7_fails X (4 : Int32) p2) (fun (s7_101 : SS) => zL (v + 1) (fun v105 => some (Sum.inl (v105, s7_101) : (Int32 × SS) ⊕ SS)))) (OkI (fun v : Int32 × SS => IV 0 1000 v.1 ∧ FF S v.2 ∧ (GD v.2 → ∀ j : Nat, (j : Int) < v.1.toInt → FO S j)) (fun v => (1000 - v.1.toInt).toNat) (fun X => FF S X ∧ (GD X → ∀ j : Nat, (j : Int) < aA S → FO S j)) (v, X)) := by
      intro p2
      refine Ok_B (k_X7_fails X (by decide) p2) (fun Y hY => Ok_l (Ok_s (OkI_l ⟨g2, ⟨hY.1.1.trans fX.1, fun k a b => (hY.1.2 k a b).trans (fX.2 k a b)⟩, fun q => absurd q hY.2⟩ g3)))
    have e26 : gI X 26 = gI S 26 := FF_i fX (by decide)
    have e30 : gI X 30 = gI S 30 := FF_i fX (by decide)
    have e11 : gB X 11 = gB S 11 := FF_B fX 11
    have e20 : gB X 20 = gB S 20 := FF_B fX 20
    have e22 : gA X 22 = gA S 22 := FF_A fX 22
    have e12 : gA X 12 = gA S 12 := FF_A fX 12
    refine Ok_G (IV_in g1 (by decide) (by decide)) ?_
    refine Ok_B (Ok_imp (Q := fun r => f_X7_newOf S (gB S 20 v.toNatClampNeg) = some r) (k_X7_newOf (S := X) (by rw [e30]; exact h.1.1.1) (by rw [e26]; exact h.2.2.1) _) (fun r hr => by rw [e20, newOf_eq e26 e30 e11] at hr; exact hr)) (fun r hr => Ok_c (fun _ => bad _) (fun c3 => ?_))
    obtain ⟨⟨w1, w2, w3⟩, w4⟩ := hr
    have t0 : (0 : Int32).toInt = 0 := by decide
    rw [ti_lt, t0] at c3
    obtain ⟨w5, w6⟩ := w2 (by omega)
    have r59 : IV 0 59 r := ⟨by omega, w1.2⟩
    have w5' : r.toInt < aR S := by
      have : aR X = aR S := by show (gI X 26).toInt = (gI S 26).toInt; rw [e26]
      omega
    have w6' : gB S 11 ((60 : Int32) * gI S 30 + r).toNatClampNeg = gB S 20 v.toNatClampNeg := by
      rw [e11, e30, e20] at w6
      exact w6
    have good : (gA S 22 v.toNatClampNeg = -1 → gA S 12 ((60 : Int32) * gI S 30 + r).toNatClampNeg = 1) → OkI (fun v : Int32 × SS => IV 0 1000 v.1 ∧ FF S v.2 ∧ (GD v.2 → ∀ j : Nat, (j : Int) < v.1.toInt → FO S j)) (fun v => (1000 - v.1.toInt).toNat) (fun X => FF S X ∧ (GD X → ∀ j : Nat, (j : Int) < aA S → FO S j)) (v, X) (Sum.inl (v + 1, X)) := by
      intro hb
      refine OkI_l ⟨g2, fX, fun _ j (hj : (j : Int) < (v + 1).toInt) => ?_⟩ g3
      rw [g5] at hj
      rcases Int.lt_or_le (j : Int) v.toInt with q | q
      · exact old j q
      · have ej : j = v.toNatClampNeg := by omega
        rw [ej]
        exact ⟨r, w4, r59, w5', w6', hb⟩
    refine Ok_c (fun c4 => Ok_G (k_in120 (k_ix (by rw [e30]; exact h.1.1.1) r59)) (Ok_c (fun c5 => Ok_l (Ok_s (good (fun _ => ?_)))) (fun _ => bad _))) (fun c4 => Ok_l (Ok_s (good (fun q => ?_))))
    · rw [e12, e30] at c5
      exact c5
    · rw [e22] at c4
      exact absurd q c4
/-- what resolve keeps -/
def RS (S X : SS) : Prop := (∀ k : Nat, k ≠ 4 → k ≠ 5 → gI X k = gI S k) ∧ (∀ k : Nat, k ≠ 14 → k ≠ 16 → k ≠ 19 → gA X k = gA S k) ∧ X.2.2.2 = S.2.2.2
theorem RS_B {S X : SS} (h : RS S X) (k : Nat) : gB X k = gB S k := by
  show X.2.2.2 k = S.2.2.2 k
  rw [h.2.2]
theorem M7_16 {Zt B T : Int} {S : SS} {f : Nat → Int32} (h : M7 Zt B T S) (hf : AR 0 59 f) : M7 Zt B T (sA S 16 f) := by
  obtain ⟨⟨n1, n2, n3, n4, n5, n6⟩, m2, m3, m4, m5, m6⟩ := h
  refine ⟨⟨n1, n2, ?_, ?_, ?_, ?_⟩, ?_, m3, ?_, m5, ?_⟩
  · rw [gA_eq]; exact hf
  · rw [gA_ne (by decide)]; exact n4
  · rw [gA_ne (by decide), gA_ne (by decide)]; exact n5
  · rw [gA_ne (by decide)]; exact n6
  · rw [gA_ne (by decide)]; exact m2
  · rw [gA_ne (by decide)]; exact m4
  · rw [gA_ne (by decide)]; exact m6
theorem M7_14 {Zt B T : Int} {S : SS} {n : Nat} {v : Int32} (h : M7 Zt B T S) (hv : IV 0 6 v) : M7 Zt B T (sA S 14 (upd (gA S 14) n v)) := by
  obtain ⟨⟨n1, n2, n3, n4, n5, n6⟩, m2, m3, m4, m5, m6⟩ := h
  refine ⟨⟨n1, n2, ?_, ?_, ?_, ?_⟩, ?_, m3, ?_, m5, ?_⟩
  · rw [gA_ne (by decide)]; exact n3
  · rw [gA_eq]; exact AR_upd n4 (IV_wk hv (by decide) (by decide))
  · intro j
    rw [gA_ne (by decide), gA_eq, upd_at]
    by_cases hj : j = n
    · rw [if_pos hj]
      exact fun _ => hv
    · rw [if_neg hj]
      exact n5 j
  · rw [gA_ne (by decide)]; exact n6
  · rw [gA_ne (by decide)]; exact m2
  · rw [gA_ne (by decide)]; exact m4
  · rw [gA_ne (by decide)]; exact m6
theorem FO_val {S X : SS} (f : RS S X) {j : Nat} (h : FO S j) : ∃ r : Int32, f_X7_newOf X (gB X 20 j) = some r ∧ IV 0 59 r := by
  obtain ⟨r, e, i, _⟩ := h
  refine ⟨r, ?_, i⟩
  rw [RS_B f, newOf_eq (f.1 26 (by decide) (by decide)) (f.1 30 (by decide) (by decide)) (RS_B f 11)]
  exact e
theorem k_X7_resolve {Zt B T : Int} {S : SS} (h : PI Zt B T S) (hd : CId S) (h1 : aA S ≤ 1000) (h2 : aD S ≤ 200) : Ok (f_X7_resolve S) (fun U => M7 Zt B T U ∧ ∀ k : Nat, k ≠ 4 → k ≠ 5 → gI U k = gI S k) := by
  have a0 := h.2.2.2.1.1
  have d0 := hd.1
  refine Ok_B (Ok_F _ _ (k_X7_resolve_2 h h1) (v := ((0 : Int32), S)) ⟨IV_00, FF_r S, fun _ j (hj : (j : Int) < (0 : Int32).toInt) => ?_⟩ (mz 1000)) (fun A hA => ?_)
  · have t0 : (0 : Int32).toInt = 0 := by decide
    rw [t0] at hj
    omega
  obtain ⟨fA, gA'⟩ := hA
  have mA := M7_FF h.1 fA
  refine Ok_B (k_X7_isGood A) (fun r hr => Ok_c (fun _ => Ok_s ⟨mA, fA.2⟩) (fun c => ?_))
  have gd : GD A := Classical.byContradiction (fun q => c (hr.mpr q))
  have fo := gA' gd
  have rA : RS S A := ⟨fA.2, fun k _ _ _ => FF_A fA k, by rw [fA.1]⟩
  -- NAMES of GATES and REGISTERS
  refine Ok_B (P := fun X => M7 Zt B T X ∧ RS S X ∧ gA X 14 = gA S 14) ?_ (fun C hC => ?_)
  · refine Ok_F (fun v : Int32 × SS => IV 0 1000 v.1 ∧ M7 Zt B T v.2 ∧ RS S v.2 ∧ gA v.2 14 = gA S 14) (fun v => (1000 - v.1.toInt).toNat) (fun v hv => ?_) ⟨IV_00, mA, rA, FF_A fA 14⟩ (mz 1000)
    obtain ⟨v, X⟩ := v
    obtain ⟨hv, mX, rX, e14⟩ : IV 0 1000 v ∧ M7 Zt B T X ∧ RS S X ∧ gA X 14 = gA S 14 := hv
    have e27 : (gI X 27).toInt = aA S := by rw [rX.1 27 (by decide) (by decide)]; rfl
    have e28 : aD X = aD S := by show (gI X 28).toInt = (gI S 28).toInt; rw [rX.1 28 (by decide) (by decide)]
    refine Ok_c (fun _ => Ok_s ⟨mX, rX, e14⟩) (fun c => ?_)
    have ⟨g1, g2, g3, g4, g5⟩ := lp_up (N := 1000) (by decide) hv (by rw [e27]; exact h1) c
    rw [e27] at g4
    have nv := ti_nat g1.1
    have skip : OkI (fun v : Int32 × SS => IV 0 1000 v.1 ∧ M7 Zt B T v.2 ∧ RS S v.2 ∧ gA v.2 14 = gA S 14) (fun v => (1000 - v.1.toInt).toNat) (fun X => M7 Zt B T X ∧ RS S X ∧ gA X 14 = gA S 14) (v, X) (Sum.inl (v + 1, X)) := OkI_l ⟨g2, mX, rX, e14⟩ g3
    refine Ok_G (IV_in g1 (by decide) (by decide)) (Ok_c (fun _ => Ok_l (Ok_s skip)) (fun c2 => Ok_B (k_X7_isOfDriver (S := X) (by omega) v) (fun r73 _ => Ok_c (fun _ => ?_) (fun _ => Ok_l (Ok_s skip)))))
    obtain ⟨r79, er, ir⟩ := FO_val rX (fo v.toNatClampNeg (by omega))
    have i22 : IV (-1) 1439 (gA X 22 v.toNatClampNeg) := by
      rw [rX.2.1 22 (by decide) (by decide) (by decide)]
      exact h.2.2.2.1.2 v.toNatClampNeg (by omega)
    have i22' : IV 0 1439 (gA X 22 v.toNatClampNeg) := IV_ne_lo c2 i22 (IV_lit (a := -1) (b := -1)) (by decide) (by decide) (by decide)
    refine Ok_e er (Ok_G (IV_in i22' (by decide) (by decide)) (Ok_L (fun Y eY => Ok_l (Ok_s (OkI_l ⟨g2, ?_, ?_, ?_⟩ g3)))))
    · rw [eY]; exact M7_16 mX (AR_upd mX.1.2.2.1 ir)
    · refine ⟨fun k a b => ?_, fun k a b d => ?_, ?_⟩
      · rw [eY, gI_sA]; exact rX.1 k a b
      · rw [eY, gA_ne b]; exact rX.2.1 k a b d
      · rw [eY]; exact rX.2.2
    · rw [eY, gA_ne (by decide)]; exact e14
  · -- DRIVERS
    obtain ⟨mC, rC, c14⟩ := hC
    refine Ok_w (Ok_F (fun v : Int32 × SS => IV 0 200 v.1 ∧ M7 Zt B T v.2 ∧ RS S v.2 ∧ ∀ i : Int32, IV 0 59 i → i.toInt < aR S → gA S 12 ((60 : Int32) * gI S 30 + i).toNatClampNeg = 1 → (gA v.2 14 ((60 : Int32) * gI S 30 + i).toNatClampNeg).toInt ≤ cnt (gB S 23) (gB S 11 ((60 : Int32) * gI S 30 + i).toNatClampNeg) v.1.toInt.toNat) (fun v => (200 - v.1.toInt).toNat) (Q := fun X => M7 Zt B T X ∧ RS S X) (fun v hv => ?_) (v := ((0 : Int32), C)) ⟨IV_00, mC, rC, fun i hi hr hk => ?_⟩ (mz 200)) (fun U hU => ⟨hU.1, hU.2.1⟩)
    · obtain ⟨v, X⟩ := v
      obtain ⟨hv, mX, rX, hN⟩ : IV 0 200 v ∧ M7 Zt B T X ∧ RS S X ∧ ∀ i : Int32, IV 0 59 i → i.toInt < aR S → gA S 12 ((60 : Int32) * gI S 30 + i).toNatClampNeg = 1 → (gA X 14 ((60 : Int32) * gI S 30 + i).toNatClampNeg).toInt ≤ cnt (gB S 23) (gB S 11 ((60 : Int32) * gI S 30 + i).toNatClampNeg) v.toInt.toNat := hv
      have e28 : (gI X 28).toInt = aD S := by rw [rX.1 28 (by decide) (by decide)]; rfl
      refine Ok_c (fun _ => Ok_s ⟨mX, rX⟩) (fun c => ?_)
      have ⟨g1, g2, g3, g4, g5⟩ := lp_up (N := 200) (by decide) hv (by rw [e28]; exact h2) c
      rw [e28] at g4
      have nv := ti_nat g1.1
      have en : v.toNatClampNeg = v.toInt.toNat := rfl
      obtain ⟨k1, k2, k3, k4⟩ := hd.2.1 v.toNatClampNeg (by omega)
      have nd := ti_nat k1
      obtain ⟨r39, f1, f2, f3, f4, f5⟩ := fo (gA S 24 v.toNatClampNeg).toNatClampNeg (by omega)
      have kb := f5 k4
      have e23 : gB X 23 v.toNatClampNeg = gB S 23 v.toNatClampNeg := by rw [RS_B rX]
      have e30 : gI X 30 = gI S 30 := rX.1 30 (by decide) (by decide)
      have er : f_X7_newOf X (gB X 23 v.toNatClampNeg) = some r39 := by
        rw [e23, newOf_eq (rX.1 26 (by decide) (by decide)) e30 (RS_B rX 11), k3]
        exact f1
      refine Ok_G (IV_in g1 (by decide) (by decide)) (Ok_e er (Ok_L (fun n en2 => ?_)))
      have en3 : n = (60 : Int32) * gI S 30 + r39 := by rw [en2, e30]
      have hn : IV 0 119 n := by rw [en3]; exact k_ix h.1.1.1 f2
      -- how many it has so far
      have cb : (gA X 14 n.toNatClampNeg).toInt ≤ 5 := by
        have q1 := hN r39 f2 f3 kb
        rw [← en3] at q1
        have q2 : gB S 11 n.toNatClampNeg = gB S 23 v.toInt.toNat := by rw [en3, f4, ← en]; exact k3.symm
        rw [q2] at q1
        have q3 := hd.2.2 (gB S 23 v.toInt.toNat)
        have q4 := cnt_mono (f := gB S 23) (nm := gB S 23 v.toInt.toNat) (n := v.toInt.toNat + 1) (m := (aD S).toNat) (by omega)
        have q5 : cnt (gB S 23) (gB S 23 v.toInt.toNat) (v.toInt.toNat + 1) = cnt (gB S 23) (gB S 23 v.toInt.toNat) v.toInt.toNat + 1 := by
          show cnt _ _ _ + (if gB S 23 v.toInt.toNat = gB S 23 v.toInt.toNat then 1 else 0) = _
          rw [if_pos rfl]
        omega
      have n5 : IV 0 5 (gA X 14 n.toNatClampNeg) := ⟨(mX.1.2.2.2.1 n.toNatClampNeg).1, cb⟩
      have i6 : IV 0 719 ((6 : Int32) * n + gA X 14 n.toNatClampNeg) := IV_add rfl (IV_mul (u := 0) (v := 714) rfl (IV_lit (a := 6) (b := 6)) hn (by decide) (by decide) (by decide) (by decide) (by decide)) n5 (by decide) (by decide) (by decide) (by decide)
      refine Ok_G (k_in120 hn) (Ok_G (IV_in i6 (by decide) (by decide)) (Ok_L (fun D eD => ?_)))
      have mD : M7 Zt B T D := by rw [eD]; exact M7_sA (by decide) mX
      have rD : RS S D := ⟨fun k a b => by rw [eD, gI_sA]; exact rX.1 k a b, fun k a b d => by rw [eD, gA_ne d]; exact rX.2.1 k a b d, by rw [eD]; exact rX.2.2⟩
      have d14 : gA D 14 = gA X 14 := by rw [eD, gA_ne (by decide)]
      have d24 : gA D 24 = gA S 24 := rD.2.1 24 (by decide) (by decide) (by decide)
      have t1 : (1 : Int32).toInt = 1 := by decide
      have t2 : (2 : Int32).toInt = 2 := by decide
      have p1 : (gA S 24 v.toNatClampNeg + (1 : Int32)).toInt = (gA S 24 v.toNatClampNeg).toInt + 1 := by rw [ti_add (by rw [t1]; omega) (by rw [t1]; omega), t1]
      have p2 : (gA S 24 v.toNatClampNeg + (2 : Int32)).toInt = (gA S 24 v.toNatClampNeg).toInt + 2 := by rw [ti_add (by rw [t2]; omega) (by rw [t2]; omega), t2]
      have np1 := ti_nat (x := gA S 24 v.toNatClampNeg + (1 : Int32)) (by omega)
      have np2 := ti_nat (x := gA S 24 v.toNatClampNeg + (2 : Int32)) (by omega)
      have i2 : IV 0 10 ((2 : Int32) * gA X 14 n.toNatClampNeg) := IV_mul rfl (IV_lit (a := 2) (b := 2)) n5 (by decide) (by decide) (by decide) (by decide) (by decide)
      have i12 : IV 0 1438 ((12 : Int32) * n + (2 : Int32) * gA X 14 n.toNatClampNeg) := IV_add rfl (IV_mul (u := 0) (v := 1428) rfl (IV_lit (a := 12) (b := 12)) hn (by decide) (by decide) (by decide) (by decide) (by decide)) i2 (by decide) (by decide) (by decide) (by decide)
      have i13 : IV 0 1439 ((12 : Int32) * n + (2 : Int32) * gA X 14 n.toNatClampNeg + (1 : Int32)) := IV_add rfl i12 (IV_lit (a := 1) (b := 1)) (by decide) (by decide) (by decide) (by decide)
      obtain ⟨r49, er49, ir49⟩ := FO_val rD (fo (gA S 24 v.toNatClampNeg + (1 : Int32)).toNatClampNeg (by omega))
      refine Ok_G (by rw [d24]; exact ti_in (by omega) (by omega)) (Ok_e (by rw [d24]; exact er49) (Ok_G (by rw [d14]; exact IV_in i12 (by decide) (by decide)) (Ok_L (fun E eE => ?_))))
      have mE : M7 Zt B T E := by rw [eE]; exact M7_16 mD (AR_upd mD.1.2.2.1 ir49)
      have rE : RS S E := ⟨fun k a b => by rw [eE, gI_sA]; exact rD.1 k a b, fun k a b d => by rw [eE, gA_ne b]; exact rD.2.1 k a b d, by rw [eE]; exact rD.2.2⟩
      have e14 : gA E 14 = gA X 14 := by rw [eE, gA_ne (by decide)]; exact d14
      have e24 : gA E 24 = gA S 24 := rE.2.1 24 (by decide) (by decide) (by decide)
      obtain ⟨r57, er57, ir57⟩ := FO_val rE (fo (gA S 24 v.toNatClampNeg + (2 : Int32)).toNatClampNeg (by omega))
      refine Ok_G (by rw [e24]; exact ti_in (by omega) (by omega)) (Ok_e (by rw [e24]; exact er57) (Ok_G (by rw [e14]; exact IV_in i13 (by decide) (by decide)) (Ok_L (fun F eF => Ok_L (fun G eG => Ok_l (Ok_s (OkI_l ⟨g2, ?_, ?_, ?_⟩ g3)))))))
      · have mF : M7 Zt B T F := by rw [eF]; exact M7_16 mE (AR_upd mE.1.2.2.1 ir57)
        have f14 : gA F 14 = gA X 14 := by rw [eF, gA_ne (by decide)]; exact e14
        rw [eG]
        refine M7_14 mF ?_
        rw [f14]
        exact IV_add rfl n5 (IV_lit (a := 1) (b := 1)) (by decide) (by decide) (by decide) (by decide)
      · refine ⟨fun k a b => ?_, fun k a b d => ?_, ?_⟩
        · rw [eG, gI_sA, eF, gI_sA]; exact rE.1 k a b
        · rw [eG, gA_ne a, eF, gA_ne b]; exact rE.2.1 k a b d
        · rw [eG, eF]; exact rE.2.2
      · intro i hi hir hk
        have f14 : gA F 14 = gA X 14 := by rw [eF, gA_ne (by decide)]; exact e14
        show (gA G 14 ((60 : Int32) * gI S 30 + i).toNatClampNeg).toInt ≤ cnt (gB S 23) (gB S 11 ((60 : Int32) * gI S 30 + i).toNatClampNeg) (v + 1).toInt.toNat
        rw [eG, gA_eq, f14, upd_at]
        have ev : (v + 1).toInt.toNat = v.toInt.toNat + 1 := by rw [g5]; have := g1.1; omega
        rw [ev]
        have old := hN i hi hir hk
        have mono := cnt_mono (f := gB S 23) (nm := gB S 11 ((60 : Int32) * gI S 30 + i).toNatClampNeg) (n := v.toInt.toNat) (m := v.toInt.toNat + 1) (by omega)
        by_cases hj : ((60 : Int32) * gI S 30 + i).toNatClampNeg = n.toNatClampNeg
        · rw [if_pos hj, k_inc n5.1 (n := 5) n5.2 (by decide)]
          have q2 : gB S 11 ((60 : Int32) * gI S 30 + i).toNatClampNeg = gB S 23 v.toInt.toNat := by rw [hj, en3, f4, ← en]; exact k3.symm
          have q5 : cnt (gB S 23) (gB S 11 ((60 : Int32) * gI S 30 + i).toNatClampNeg) (v.toInt.toNat + 1) = cnt (gB S 23) (gB S 11 ((60 : Int32) * gI S 30 + i).toNatClampNeg) v.toInt.toNat + 1 := by
            show cnt _ _ _ + (if gB S 23 v.toInt.toNat = gB S 11 ((60 : Int32) * gI S 30 + i).toNatClampNeg then 1 else 0) = _
            rw [if_pos q2.symm]
          rw [hj] at old q5 ⊢
          omega
        · rw [if_neg hj]
          omega
    · have z := h.2.2.2.2 i hi hr hk
      rw [c14, z]
      have t0 : (0 : Int32).toInt = 0 := by decide
      rw [t0]
      exact Int.natCast_nonneg _
