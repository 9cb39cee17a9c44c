/-! the reference's lines -/
theorem CId_eq {S U : SS} (h : CId S) (e27 : gI U 27 = gI S 27) (e28 : gI U 28 = gI S 28) (e22 : gA U 22 = gA S 22) (e24 : gA U 24 = gA S 24) (e20 : gB U 20 = gB S 20) (e23 : gB U 23 = gB S 23) : CId U := by
  unfold CId aD aA
  rw [e27, e28, e22, e24, e20, e23]
  exact h
theorem CId_MU {S U : SS} (h : CId S) (f : MU S U) : CId U := CId_ST h (ST_MU f)
theorem aD_MU {S U : SS} (f : MU S U) : aD U = aD S := ST_D (ST_MU f)
theorem aD_FX {S U : SS} (f : FX S U) : aD U = aD S := ST_D (ST_FX f)
/-- a row of nMany of a NODE that is no BUS -/
theorem PI_14 {Zt B T : Int} {S : SS} (h : PI Zt B T S) {n : Nat} {v : Int32} (hk : gA S 12 n ≠ 1) (hv : IV 0 7 v) : PI Zt B T (sA S 14 (upd (gA S 14) n v)) := by
  obtain ⟨⟨⟨n1, n2, n3, n4, n5, n6⟩, m2, m3, m4, m5, m6⟩, hl, hr, hc, hb⟩ := h
  refine ⟨⟨⟨n1, n2, ?_, ?_, ?_, ?_⟩, ?_, m3, ?_, m5, ?_⟩, hl, hr, ?_, ?_⟩
  · rw [gA_ne (by decide)]; exact n3
  · rw [gA_eq]; exact AR_upd n4 hv
  · intro j
    rw [gA_ne (by decide), gA_eq, upd_at]
    by_cases hj : j = n
    · rw [if_pos hj, hj]
      exact fun q => absurd q hk
    · rw [if_neg hj]
      exact n5 j
  · rw [gA_ne (by decide)]; exact n6
  · rw [gA_ne (by decide)]; exact m2
  · rw [gA_ne (by decide)]; exact m4
  · rw [gA_ne (by decide)]; exact m6
  · unfold CIa
    rw [gA_ne (by decide)]
    exact hc
  · intro i hi hir hk2
    rw [gA_ne (by decide)] at hk2
    rw [gA_eq, upd_at]
    have hne : ((60 : Int32) * gI (sA S 14 (upd (gA S 14) n v)) 30 + i).toNatClampNeg ≠ n := by
      intro e
      rw [e] at hk2
      exact hk hk2
    rw [if_neg hne]
    exact hb i hi hir hk2
theorem PI_13 {Zt B T : Int} {S : SS} (h : PI Zt B T S) {f : Nat → Int32} : PI Zt B T (sA S 13 f) := by
  obtain ⟨m, hl, hr, hc, hb⟩ := h
  refine ⟨M7_sA (by decide) m, hl, hr, ?_, ?_⟩
  · unfold CIa
    rw [gA_ne (by decide)]
    exact hc
  · intro i hi hir hk2
    rw [gA_ne (by decide)] at hk2
    rw [gA_ne (by decide)]
    exact hb i hi hir hk2
theorem PI_15 {Zt B T : Int} {S : SS} (h : PI Zt B T S) {n : Nat} {v : Int32} (hv : IV 0 9 v) : PI Zt B T (sA S 15 (upd (gA S 15) n v)) := by
  obtain ⟨⟨⟨n1, n2, n3, n4, n5, n6⟩, m2, m3, m4, m5, m6⟩, hl, hr, hc, hb⟩ := h
  refine ⟨⟨⟨n1, n2, ?_, ?_, ?_, ?_⟩, ?_, m3, ?_, m5, ?_⟩, hl, hr, ?_, ?_⟩
  · rw [gA_ne (by decide)]; exact n3
  · rw [gA_ne (by decide)]; exact n4
  · rw [gA_ne (by decide), gA_ne (by decide)]; exact n5
  · rw [gA_eq]; exact AR_upd n6 hv
  · rw [gA_ne (by decide)]; exact m2
  · rw [gA_ne (by decide)]; exact m4
  · rw [gA_ne (by decide)]; exact m6
  · unfold CIa
    rw [gA_ne (by decide)]
    exact hc
  · intro i hi hir hk2
    rw [gA_ne (by decide)] at hk2
    rw [gA_ne (by decide)]
    exact hb i hi hir hk2
/-- the parser at a line's start: a is where it stands at least -/
def PL (Zt B T : Int) (a : Int) (U : SS) : Prop := M7 Zt B T U ∧ (GD U → PI Zt B T U ∧ CId U ∧ 2 * aA U ≤ aT U ∧ 10 * aD U ≤ aT U ∧ a ≤ aT U)
theorem PL_bad {Zt B T a : Int} {U : SS} (h : M7 Zt B T U) (g : ¬ GD U) : PL Zt B T a U := ⟨h, fun q => absurd q g⟩
/-- a must that closes a line -/
theorem PL_must {Zt B T a : Int} {S U : SS} (h : PI Zt B T S) (hd : CId S) (f : MU S U) (h1 : GD S → 2 * aA S ≤ aT S + 1) (h2 : GD S → 10 * aD S ≤ aT S + 1) (h3 : GD S → a ≤ aT S + 1) : PL Zt B T a U := by
  refine ⟨M7_MU h.1 f, fun q => ?_⟩
  obtain ⟨g, e⟩ := f.2.2.2 q
  have a1 := h1 g
  have a2 := h2 g
  have a3 := h3 g
  exact ⟨PI_MU h f, CId_MU hd f, by rw [aA_MU f]; omega, by rw [aD_MU f]; omega, by omega⟩
theorem ne10 : ¬ (1 : Int32) = 0 := by decide
theorem k_X7_tellAll {Zt B T : Int} {S : SS} (h : PI Zt B T S) (hd : CId S) (h1 : 2 * aA S ≤ aT S) (h2 : 10 * aD S ≤ aT S) (p1 : Int32) : Ok (f_X7_tellAll S p1) (fun U => PL Zt B T (aT S + 1) U) := by
  refine Ok_B (P := fun X => PI Zt B T X ∧ CId X ∧ aA X = aA S ∧ aD X = aD S ∧ (GD X → aT S + 1 ≤ aT X)) ?_ (fun X hX => ?_)
  · refine Ok_F (fun v : Int32 × SS => zb v.1 ∧ PI Zt B T v.2 ∧ CId v.2 ∧ aA v.2 = aA S ∧ aD v.2 = aD S ∧ (GD v.2 → aT S ≤ aT v.2 ∧ (v.1 = 0 → aT S + 1 ≤ aT v.2))) (fun v => if v.1 = 0 then 0 else (2001 - aT v.2).toNat + 1) (fun v hv => ?_) ⟨Or.inr rfl, h, hd, rfl, rfl, fun _ => ⟨Int.le_refl _, fun q => absurd q ne10⟩⟩ ?_
    · obtain ⟨m, X⟩ := v
      obtain ⟨hm, hX, hdX, eA, eD, hg⟩ : zb m ∧ PI Zt B T X ∧ CId X ∧ aA X = aA S ∧ aD X = aD S ∧ (GD X → aT S ≤ aT X ∧ (m = 0 → aT S + 1 ≤ aT X)) := hv
      refine Ok_c (fun c => Ok_s ⟨hX, hdX, eA, eD, fun q => (hg q).2 c⟩) (fun c => Ok_B (k_X7_isGood X) (fun r hr => Ok_c (fun c2 => Ok_s ⟨hX, hdX, eA, eD, fun q => absurd q (hr.mp c2)⟩) (fun c2 => ?_)))
      have gX : GD X := Classical.byContradiction (fun q => c2 (hr.mpr q))
      have gT := (hg gX).1
      have lX := hX.2.1
      refine Ok_B (k_next0 lX) (fun Y hY => Ok_B (k_X7_tell (PI_FX hX hY.1 hY.2.1) p1) (fun w hw => ?_))
      obtain ⟨rr, Z⟩ := w
      obtain ⟨z1, ⟨z2, z3, z4⟩, z5⟩ : PI Zt B T Z ∧ ((∀ k : Nat, k = 3 ∨ k = 27 ∨ k = 28 ∨ k = 29 ∨ k = 30 → gI Z k = gI Y k) ∧ (∀ k : Nat, k = 22 ∨ k = 24 ∨ k = 25 → gA Z k = gA Y k) ∧ (gB Z 20 = gB Y 20 ∧ gB Z 23 = gB Y 23)) ∧ (GD Z → GD Y ∧ aT Y + 1 ≤ aT Z ∧ IV 0 119 rr ∧ gA Z 12 rr.toNatClampNeg = p1) := hw
      have dY : CId Y := CId_ST hdX (ST_FX hY.1)
      have dZ : CId Z := CId_eq dY (z2 27 (by decide)) (z2 28 (by decide)) (z3 22 (by decide)) (z3 24 (by decide)) z4.1 z4.2
      have aZ' : aA Z = aA S := by
        show (gI Z 27).toInt = _
        rw [z2 27 (by decide)]
        exact (aA_FX hY.1).trans eA
      have dZ' : aD Z = aD S := by
        show (gI Z 28).toInt = _
        rw [z2 28 (by decide)]
        exact (aD_FX hY.1).trans eD
      have up : GD Z → aT X + 1 ≤ aT Z := fun q => by
        have e := (z5 q).2.1
        have e2 := hY.2.2
        have e : aT Y + 1 ≤ aT Z := e
        omega
      have lZ := z1.2.1
      have muX : (if m = 0 then 0 else (2001 - aT X).toNat + 1) = (2001 - aT X).toNat + 1 := if_neg c
      have up0 : GD Z → aT S ≤ aT Z ∧ ((0 : Int32) = 0 → aT S + 1 ≤ aT Z) := fun q => ⟨by have := up q; omega, fun _ => by have := up q; omega⟩
      have up1 : GD Z → aT S ≤ aT Z ∧ ((1 : Int32) = 0 → aT S + 1 ≤ aT Z) := fun q => ⟨by have := up q; omega, fun q2 => absurd q2 ne10⟩
      have off : OkI (fun v : Int32 × SS => zb v.1 ∧ PI Zt B T v.2 ∧ CId v.2 ∧ aA v.2 = aA S ∧ aD v.2 = aD S ∧ (GD v.2 → aT S ≤ aT v.2 ∧ (v.1 = 0 → aT S + 1 ≤ aT v.2))) (fun v => if v.1 = 0 then 0 else (2001 - aT v.2).toNat + 1) (fun X => PI Zt B T X ∧ CId X ∧ aA X = aA S ∧ aD X = aD S ∧ (GD X → aT S + 1 ≤ aT X)) (m, X) (Sum.inl ((0 : Int32), Z)) := by
        refine OkI_l ⟨Or.inl rfl, z1, dZ, aZ', dZ', up0⟩ ?_
        show (if (0 : Int32) = 0 then 0 else (2001 - aT Z).toNat + 1) < (if m = 0 then 0 else (2001 - aT X).toNat + 1)
        rw [muX, if_pos rfl]
        omega
      refine Ok_B (k_X7_isGood Z) (fun r4 hr4 => Ok_c (fun _ => Ok_s off) (fun c4 => Ok_B (k_X7_is lZ _) (fun r5 hr5 => Ok_c (fun _ => Ok_s off) (fun _ => Ok_s (OkI_l ⟨Or.inr rfl, z1, dZ, aZ', dZ', up1⟩ ?_)))))
      have gZ : GD Z := Classical.byContradiction (fun q => c4 (hr4.mpr q))
      have u := up gZ
      show (if (1 : Int32) = 0 then 0 else (2001 - aT Z).toNat + 1) < (if m = 0 then 0 else (2001 - aT X).toNat + 1)
      rw [muX, if_neg (by decide)]
      obtain ⟨l1, l2, l3, l4, _⟩ := lZ
      omega
    · show (if (1 : Int32) = 0 then 0 else (2001 - aT S).toNat + 1) < 10000
      rw [if_neg (by decide)]
      have := h.2.1.1
      omega
  · obtain ⟨x1, x2, x3, x4, x5⟩ := hX
    refine Ok_B (k_X7_isGood X) (fun r hr => Ok_c (fun c => Ok_s (PL_bad x1.1 (hr.mp c))) (fun _ => Ok_B (k_X7_must x1.2.1 _) (fun U hU => Ok_s (PL_must x1 x2 hU (fun q => ?_) (fun q => ?_) (fun q => ?_)))))
    · have := x5 q
      omega
    · have := x5 q
      omega
    · have := x5 q
      omega
theorem k_X7_readRegister {Zt B T : Int} {S : SS} (h : PI Zt B T S) (hd : CId S) (h1 : 2 * aA S ≤ aT S) (h2 : 10 * aD S ≤ aT S) (ht : gI S 8 ≠ 0) : Ok (f_X7_readRegister S) (fun U => PL Zt B T (aT S + 1) U) := by
  refine Ok_B (k_next h.2.1 ht) (fun A hA => ?_)
  have pA := PI_MU h hA.2.1
  have dA := CId_MU hd hA.2.1
  have uA := hA.2.2.1
  have aA1 := aA_MU hA.2.1
  have aD1 := aD_MU hA.2.1
  refine Ok_B (k_X7_tell pA 3) (fun w hw => ?_)
  obtain ⟨n, C⟩ := w
  obtain ⟨pC, ⟨z2, z3, z4⟩, z5⟩ : PI Zt B T C ∧ ((∀ k : Nat, k = 3 ∨ k = 27 ∨ k = 28 ∨ k = 29 ∨ k = 30 → gI C k = gI A k) ∧ (∀ k : Nat, k = 22 ∨ k = 24 ∨ k = 25 → gA C k = gA A k) ∧ (gB C 20 = gB A 20 ∧ gB C 23 = gB A 23)) ∧ (GD C → GD A ∧ aT A + 1 ≤ aT C ∧ IV 0 119 n ∧ gA C 12 n.toNatClampNeg = 3) := hw
  have dC : CId C := CId_eq dA (z2 27 (by decide)) (z2 28 (by decide)) (z3 22 (by decide)) (z3 24 (by decide)) z4.1 z4.2
  have aAC : aA C = aA S := by
    show (gI C 27).toInt = _
    rw [z2 27 (by decide)]
    exact aA1
  have aDC : aD C = aD S := by
    show (gI C 28).toInt = _
    rw [z2 28 (by decide)]
    exact aD1
  refine Ok_B (k_X7_isGood C) (fun r10 hr10 => Ok_B (P := fun D => MU C D ∨ (D = C ∧ ¬ GD C)) (Ok_c (fun c => Ok_s (Or.inr ⟨rfl, hr10.mp c⟩)) (fun _ => Ok_B (k_X7_must pC.2.1 _) (fun D hD => Ok_s (Or.inl hD)))) (fun D hD => ?_))
  have mD : M7 Zt B T D := by
    rcases hD with hD | ⟨rfl, _⟩
    · exact M7_MU pC.1 hD
    · exact pC.1
  refine Ok_B (k_X7_isGood D) (fun r21 hr21 => Ok_c (fun c => Ok_s (PL_bad mD (hr21.mp c))) (fun c => ?_))
  have gD : GD D := Classical.byContradiction (fun q => c (hr21.mpr q))
  rcases hD with hD | ⟨rfl, hb⟩
  · obtain ⟨gC, uD⟩ := hD.2.2.2 gD
    obtain ⟨gA', uC, hn, hk⟩ := z5 gC
    have pD := PI_MU pC hD
    have dD := CId_MU dC hD
    have aAD : aA D = aA S := (aA_MU hD).trans aAC
    have aDD : aD D = aD S := (aD_MU hD).trans aDC
    have kD : gA D 12 n.toNatClampNeg = 3 := by rw [MU_A hD]; exact hk
    have i0 : IV (-1) 1439 ((12 : Int32) * n) := IV_wk (IV_mul (u := 0) (v := 1428) rfl (IV_lit (a := 12) (b := 12)) hn (by decide) (by decide) (by decide) (by decide) (by decide)) (by decide) (by decide)
    have i1 : IV (-1) 1439 ((12 : Int32) * n + (1 : Int32)) := IV_wk (IV_add (u := 0) (v := 1429) rfl (IV_mul (u := 0) (v := 1428) rfl (IV_lit (a := 12) (b := 12)) hn (by decide) (by decide) (by decide) (by decide) (by decide)) (IV_lit (a := 1) (b := 1)) (by decide) (by decide) (by decide) (by decide)) (by decide) (by decide)
    refine Ok_B (k_X7_ask pD (by omega) i0) (fun E hE => ?_)
    obtain ⟨pE, sE, gE⟩ := hE
    have kE : gA E 12 n.toNatClampNeg = 3 := by rw [sE.2.1 12 (by decide)]; exact kD
    have dE := CId_ST dD sE
    refine Ok_G (k_in120 hn) (Ok_L (fun F eF => ?_))
    have pF : PI Zt B T F := by rw [eF]; exact PI_14 pE (by rw [kE]; decide) IV_lit
    have dF : CId F := by rw [eF]; exact CId_eq dE rfl rfl (gA_ne (by decide)) (gA_ne (by decide)) rfl rfl
    have kF : gA F 12 n.toNatClampNeg = 3 := by rw [eF, gA_ne (by decide)]; exact kE
    have tF : aT F = aT E := by rw [eF]; rfl
    have aF : aA F = aA E := by rw [eF]; rfl
    have dF' : aD F = aD S := by rw [eF]; exact (ST_D sE).trans aDD
    have gF : GD F ↔ GD E := by rw [eF]; exact Iff.rfl
    refine Ok_B (k_X7_isGood F) (fun r33 hr33 => Ok_B (P := fun G => PI Zt B T G ∧ CId G ∧ aD G = aD S ∧ (GD G → aA G ≤ aA S + 2 ∧ aT S + 4 ≤ aT G)) ?_ (fun G hG => ?_))
    · refine Ok_c (fun c => Ok_s ⟨pF, dF, dF', fun q => absurd q (hr33.mp c)⟩) (fun c => ?_)
      have gF1 : GD F := Classical.byContradiction (fun q => c (hr33.mpr q))
      obtain ⟨_, e1, e2⟩ := gE (gF.mp gF1)
      have lF := pF.2.1
      refine Ok_B (k_X7_is lF _) (fun r70 hr70 => Ok_c (fun _ => Ok_s ⟨pF, dF, dF', fun q => ⟨by omega, by omega⟩⟩) (fun c70 => ?_))
      refine Ok_B (k_next lF (by rw [hr70.2 c70]; decide)) (fun G hG => ?_)
      have pG := PI_MU pF hG.2.1
      have uG := hG.2.2.1
      have aG := aA_MU hG.2.1
      have dG' := aD_MU hG.2.1
      refine Ok_B (k_X7_ask pG (by omega) i1) (fun H hH => Ok_L (fun I eI => Ok_s ?_))
      obtain ⟨pH, sH, gH⟩ := hH
      have kG : gA G 12 n.toNatClampNeg = 3 := by rw [MU_A hG.2.1]; exact kF
      have kH : gA H 12 n.toNatClampNeg = 3 := by rw [sH.2.1 12 (by decide)]; exact kG
      have dH := CId_ST (CId_MU dF hG.2.1) sH
      refine ⟨by rw [eI]; exact PI_14 pH (by rw [kH]; decide) IV_lit, by rw [eI]; exact CId_eq dH rfl rfl (gA_ne (by decide)) (gA_ne (by decide)) rfl rfl, by rw [eI]; exact (ST_D sH).trans (dG'.trans dF'), fun q => ?_⟩
      have q2 : GD H := by rw [eI] at q; exact q
      obtain ⟨_, v1, v2⟩ := gH q2
      have tI : aT I = aT H := by rw [eI]; rfl
      have aI : aA I = aA H := by rw [eI]; rfl
      exact ⟨by omega, by omega⟩
    · obtain ⟨pG, dG, aDG, gG⟩ := hG
      refine Ok_B (k_X7_isGood G) (fun r44 hr44 => Ok_B (P := fun H => (MU G H ∧ (GD H → GD G)) ∨ (H = G ∧ ¬ GD G)) (Ok_c (fun c => Ok_s (Or.inr ⟨rfl, hr44.mp c⟩)) (fun _ => Ok_B (k_X7_must pG.2.1 _) (fun H hH => Ok_s (Or.inl ⟨hH, fun q => (hH.2.2.2 q).1⟩)))) (fun H hH => ?_))
      rcases hH with ⟨hH, gH⟩ | ⟨rfl, hb⟩
      · have pH := PI_MU pG hH
        have dH := CId_MU dG hH
        refine Ok_B (k_X7_isGood H) (fun r55 hr55 => Ok_c (fun c => Ok_s (PL_bad pH.1 (hr55.mp c))) (fun _ => Ok_B (k_X7_must pH.2.1 _) (fun U hU => Ok_s (PL_must pH dH hU (fun q => ?_) (fun q => ?_) (fun q => ?_)))))
        · obtain ⟨x1, x2⟩ := hH.2.2.2 q
          obtain ⟨y1, y2⟩ := gG x1
          have := aA_MU hH
          omega
        · obtain ⟨x1, x2⟩ := hH.2.2.2 q
          obtain ⟨y1, y2⟩ := gG x1
          have := aD_MU hH
          omega
        · obtain ⟨x1, x2⟩ := hH.2.2.2 q
          obtain ⟨y1, y2⟩ := gG x1
          omega
      · refine Ok_B (k_X7_isGood H) (fun r55 hr55 => Ok_c (fun c => Ok_s (PL_bad pG.1 (hr55.mp c))) (fun c => absurd (hr55.mpr hb) c))
  · exact absurd gD hb
