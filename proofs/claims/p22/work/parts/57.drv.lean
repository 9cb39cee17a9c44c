/-! a DRIVER's line; a line -/
/-- what a DRIVER's line has made so far: S ahead of it, X now, w of its three NAMES asked for -/
def DL (S X : SS) (w : Int) : Prop := aD X = aD S + 1 ∧ aA X = aA S + w ∧ (∀ j : Nat, (j : Int) < aD S → gA X 24 j = gA S 24 j ∧ gB X 23 j = gB S 23 j) ∧ (∀ j : Nat, (j : Int) < aA S → gA X 22 j = gA S 22 j ∧ gB X 20 j = gB S 20 j) ∧ (gA X 24 (aD S).toNat).toInt = aA S ∧ gA X 22 (aA S).toNat = -1 ∧ gB X 23 (aD S).toNat = gB X 20 (aA S).toNat
theorem DL_ST {S X Y : SS} {w w' : Int} (h : DL S X w) (f : ST X Y) (h0 : 0 ≤ aA S) (hw : 1 ≤ w) (e : aA Y = aA S + w') : DL S Y w' := by
  obtain ⟨d1, d2, d3, d4, d5, d6, d7⟩ := h
  have e24 : gA Y 24 = gA X 24 := f.2.1 24 (by decide)
  have e23 : gB Y 23 = gB X 23 := f.2.2.1.2
  have q := f.2.2.2.1 (aA S).toNat (by omega)
  refine ⟨(ST_D f).trans d1, e, fun j hj => by rw [e24, e23]; exact d3 j hj, fun j hj => ?_, by rw [e24]; exact d5, by rw [q.1]; exact d6, by rw [e23, q.2]; exact d7⟩
  have q2 := f.2.2.2.1 j (by omega)
  exact ⟨q2.1.trans (d4 j hj).1, q2.2.trans (d4 j hj).2⟩
theorem DL_MU {S X Y : SS} {w : Int} (h : DL S X w) (f : MU X Y) (h0 : 0 ≤ aA S) (hw : 1 ≤ w) : DL S Y w := DL_ST h (ST_MU f) h0 hw ((aA_MU f).trans h.2.1)
/-- the whole line: its DRIVER is one of all -/
theorem CId_DL {S X : SS} (hd : CId S) (h0 : 0 ≤ aA S) (h : DL S X 3) {p1 : Int64} (e23 : gB X 23 (aD S).toNat = p1) (h5 : cnt (gB S 23) p1 (aD S).toNat ≤ 5) : CId X := by
  obtain ⟨c0, c1, c2⟩ := hd
  obtain ⟨d1, d2, d3, d4, d5, d6, d7⟩ := h
  have eN : (aD X).toNat = (aD S).toNat + 1 := by rw [d1]; omega
  refine ⟨by omega, fun k hk => ?_, fun nm => ?_⟩
  · rw [d1] at hk
    rcases Int.lt_or_le (k : Int) (aD S) with q | q
    · obtain ⟨a1, a2, a3, a4⟩ := c1 k q
      have n1 := ti_nat a1
      obtain ⟨f1, f2⟩ := d3 k q
      obtain ⟨f3, f4⟩ := d4 (gA S 24 k).toNatClampNeg (by omega)
      rw [f1, f2]
      exact ⟨a1, by omega, by rw [f4]; exact a3, by rw [f3]; exact a4⟩
    · have ek : k = (aD S).toNat := by omega
      rw [ek]
      have n1 := ti_nat (x := gA X 24 (aD S).toNat) (by omega)
      have n2 : (gA X 24 (aD S).toNat).toNatClampNeg = (aA S).toNat := by omega
      exact ⟨by omega, by omega, by rw [n2]; exact d7, by rw [n2]; exact d6⟩
  · rw [eN]
    show cnt (gB X 23) nm (aD S).toNat + (if gB X 23 (aD S).toNat = nm then 1 else 0) ≤ 6
    have es : cnt (gB X 23) nm (aD S).toNat = cnt (gB S 23) nm (aD S).toNat := cnt_same (fun j hj => (d3 j (by omega)).2)
    rw [es]
    by_cases hq : gB X 23 (aD S).toNat = nm
    · rw [if_pos hq]
      rw [e23] at hq
      rw [← hq]
      omega
    · rw [if_neg hq]
      exact c2 nm
theorem k_X7_readDriver {Zt B T a : Int} {S : SS} (h : PI Zt B T S) (hd : CId S) (gS : GD S) (t5 : gI S 8 = 5) (h1 : 2 * aA S ≤ a) (h2 : 10 * aD S ≤ a) (h3 : a + 1 ≤ aT S) (p1 : Int64) (p2 : Int32) : Ok (f_X7_readDriver S p1 p2) (fun U => PL Zt B T (a + 1) U) := by
  obtain ⟨hM, hl, hr, hc, hb⟩ := id h
  obtain ⟨l1, l2, l3, l4, l5, l6, l7, l8⟩ := id hl
  have l9 := l6 (by rw [t5]; decide)
  have d0 := hd.1
  have a0 := hc.1
  refine Ok_B (k_X7_had d0 (by omega) p1) (fun v10 h10 => Ok_B (P := fun A => (A = S ∧ v10 ≠ 6) ∨ (FF S A ∧ ¬ GD A)) (Ok_c (fun _ => Ok_B (k_X7_fails S (by decide) _) (fun A hA => Ok_s (Or.inr hA))) (fun c => Ok_s (Or.inl ⟨rfl, c⟩))) (fun A hA => ?_))
  refine Ok_B (k_X7_isGood A) (fun r18 hr18 => Ok_c (fun c => Ok_s ?_) (fun c => ?_))
  · have ng : ¬ GD A := hr18.mp c
    refine PL_bad ?_ ng
    rcases hA with ⟨rfl, _⟩ | hA
    · exact hM
    · exact M7_FF hM hA.1
  · have gA' : GD A := Classical.byContradiction (fun q => c (hr18.mpr q))
    rcases hA with ⟨rfl, h6⟩ | hA
    · have h5 : cnt (gB A 23) p1 (aD A).toNat ≤ 5 := by
        have := hd.2.2 p1
        have t6 : (6 : Int32).toInt = 6 := by decide
        have ne : ¬ v10.toInt = 6 := fun w => h6 (Int32.toInt_inj.mp (by rw [w, t6]))
        omega
      have i27 : vp_in (gI A 27) 1000 := ti_in a0 (by show aA A < 1000; omega)
      have i28 : vp_in (gI A 28) 200 := ti_in d0 (by show aD A < 200; omega)
      refine Ok_G i27 (Ok_L (fun C eC => ?_))
      have c27 : gI C 27 = gI A 27 := by rw [eC, gI_sB]
      refine Ok_G (by rw [c27]; exact i27) (Ok_L (fun D eD => ?_))
      have d27 : gI D 27 = gI A 27 := by rw [eD, gI_sA, c27]
      refine Ok_G (by rw [d27]; exact i27) (Ok_L (fun E eE => ?_))
      have e28 : gI E 28 = gI A 28 := by rw [eE, gI_sA, eD, gI_sA, eC, gI_sB]
      refine Ok_G (by rw [e28]; exact i28) (Ok_L (fun F eF => ?_))
      have f28 : gI F 28 = gI A 28 := by rw [eF, gI_sB, e28]
      refine Ok_G (by rw [f28]; exact i28) (Ok_L (fun G eG => Ok_L (fun H eH => ?_)))
      have f27 : gI F 27 = gI A 27 := by rw [eF, gI_sB, eE, gI_sA, d27]
      have g27 : gI G 27 = gI A 27 := by rw [eG, gI_sA, f27]
      have hi : ∀ k : Nat, k ≠ 27 → gI H k = gI A k := fun k q => by rw [eH, gI_ne q, eG, gI_sA, eF, gI_sB, eE, gI_sA, eD, gI_sA, eC, gI_sB]
      have ha : ∀ k : Nat, k ≠ 21 → k ≠ 22 → k ≠ 24 → gA H k = gA A k := fun k q1 q2 q3 => by rw [eH, gA_sI, eG, gA_ne q3, eF, gA_sB, eE, gA_ne q2, eD, gA_ne q1, eC, gA_sB]
      have h22 : gA H 22 = upd (gA A 22) (gI A 27).toNatClampNeg (-1) := by rw [eH, gA_sI, eG, gA_ne (by decide), eF, gA_sB, eE, gA_eq, d27, eD, gA_ne (by decide), eC, gA_sB]
      have h24 : gA H 24 = upd (gA A 24) (gI A 28).toNatClampNeg (gI A 27) := by rw [eH, gA_sI, eG, gA_eq, f28, f27, eF, gA_sB, eE, gA_ne (by decide), eD, gA_ne (by decide), eC, gA_sB]
      have h20 : gB H 20 = vp_updL (gB A 20) (gI A 27).toNatClampNeg p1 := by rw [eH, gB_sI, eG, gB_sA, eF, gB_sB, if_neg (by decide), eE, gB_sA, eD, gB_sA, eC, gB_sB, if_pos rfl]
      have h23 : gB H 23 = vp_updL (gB A 23) (gI A 28).toNatClampNeg p1 := by rw [eH, gB_sI, eG, gB_sA, eF, gB_sB, if_pos rfl, e28, eE, gB_sA, eD, gB_sA, eC, gB_sB, if_neg (by decide)]
      have hb11 : gB H 11 = gB A 11 := by rw [eH, gB_sI, eG, gB_sA, eF, gB_sB, if_neg (by decide), eE, gB_sA, eD, gB_sA, eC, gB_sB, if_neg (by decide)]
      have inc : (gI A 27 + (1 : Int32)).toInt = aA A + 1 := k_inc a0 (n := 1000) (by show aA A ≤ 1000; omega) (by decide)
      have hA27 : aA H = aA A + 1 := by show (gI H 27).toInt = _; rw [eH, gI_eq, g27]; exact inc
      have n27 : ((gI A 27).toNatClampNeg : Int) = aA A := ti_nat a0
      have n28 : ((gI A 28).toNatClampNeg : Int) = aD A := ti_nat d0
      have mC : M7 Zt B T C := by rw [eC]; exact hM
      have mD : M7 Zt B T D := by rw [eD]; exact M7_sA (by decide) mC
      have mE : M7 Zt B T E := by rw [eE]; exact M7_sA (by decide) mD
      have mF : M7 Zt B T F := by rw [eF]; exact mE
      have mG : M7 Zt B T G := by rw [eG]; exact M7_sA (by decide) mF
      have mH : M7 Zt B T H := by rw [eH]; exact M7_sI (by decide) mG
      have lH : LX H := by
        unfold LX aT aE aZ
        rw [hi 6 (by decide), hi 7 (by decide), hi 3 (by decide), hi 8 (by decide), hi 9 (by decide)]
        exact hl
      have cH : CIa H := by
        refine ⟨by omega, fun k q => ?_⟩
        rw [h22, upd_at]
        by_cases hk : k = (gI A 27).toNatClampNeg
        · rw [if_pos hk]; exact IV_lit
        · rw [if_neg hk]
          exact hc.2 k (by omega)
      have bH : BZ H := by
        intro i hi2 hir hk
        have e26 : aR H = aR A := by show (gI H 26).toInt = (gI A 26).toInt; rw [hi 26 (by decide)]
        rw [e26] at hir
        rw [hi 30 (by decide), ha 12 (by decide) (by decide) (by decide)] at hk
        rw [hi 30 (by decide), ha 14 (by decide) (by decide) (by decide)]
        exact hb i hi2 hir hk
      have pH : PI Zt B T H := ⟨mH, lH, by rw [hi 26 (by decide)]; exact hr, cH, bH⟩
      have tH : aT H = aT A := by show (gI H 6).toInt = (gI A 6).toInt; rw [hi 6 (by decide)]
      have gH : GD H := by unfold GD; rw [hi 4 (by decide)]; exact gA'
      have t8 : gI H 8 ≠ 0 := by rw [hi 8 (by decide), t5]; decide
      refine Ok_B (k_next lH t8) (fun I hI => ?_)
      have pI := PI_MU pH hI.2.1
      have uI := hI.2.2.1
      have aI : aA I = aA A + 1 := (aA_MU hI.2.1).trans hA27
      have i28' : gI I 28 = gI A 28 := by rw [MU_i hI.2.1 (by decide)]; exact hi 28 (by decide)
      have gI' : GD I := (GD_FX hI.1).mpr gH
      refine Ok_B (k_X7_isWord I _) (fun r44 hr44 => Ok_B (P := fun J => (J = I ∧ gI I 8 = 3) ∨ (FF I J ∧ ¬ GD J)) (Ok_c (fun _ => Ok_B (k_X7_isWord I _) (fun r151 hr151 => Ok_c (fun _ => Ok_B (k_X7_wrong I) (fun J hJ => Ok_s (Or.inr hJ))) (fun c2 => Ok_s (Or.inl ⟨rfl, hr151.2 c2⟩)))) (fun c2 => Ok_s (Or.inl ⟨rfl, hr44.2 c2⟩))) (fun J hJ => ?_))
      refine Ok_B (k_X7_isGood J) (fun r55 hr55 => Ok_c (fun c5 => Ok_s ?_) (fun c5 => ?_))
      · have ng : ¬ GD J := hr55.mp c5
        refine PL_bad ?_ ng
        rcases hJ with ⟨rfl, _⟩ | hJ
        · exact pI.1
        · exact M7_FF pI.1 hJ.1
      · have gJ : GD J := Classical.byContradiction (fun q => c5 (hr55.mpr q))
        rcases hJ with ⟨rfl, t3⟩ | hJ
        · refine Ok_B (k_X7_isWord J _) (fun r60 _ => Ok_G (by rw [i28']; exact i28) (Ok_L (fun K eK => Ok_L (fun L eL => ?_))))
          have li : ∀ k : Nat, k ≠ 28 → gI L k = gI J k := fun k q => by rw [eL, gI_ne q, eK, gI_sA]
          have la : ∀ k : Nat, k ≠ 25 → gA L k = gA J k := fun k q => by rw [eL, gA_sI, eK, gA_ne q]
          have lb : ∀ k : Nat, gB L k = gB J k := fun k => by rw [eL, gB_sI, eK, gB_sA]
          have k28 : gI K 28 = gI A 28 := by rw [eK, gI_sA]; exact i28'
          have incD : (gI A 28 + (1 : Int32)).toInt = aD A + 1 := k_inc d0 (n := 200) (by show aD A ≤ 200; omega) (by decide)
          have lD : aD L = aD A + 1 := by show (gI L 28).toInt = _; rw [eL, gI_eq, k28]; exact incD
          have mK : M7 Zt B T K := by rw [eK]; exact M7_sA (by decide) pI.1
          have mL : M7 Zt B T L := by rw [eL]; exact M7_sI (by decide) mK
          have lL : LX L := by
            unfold LX aT aE aZ
            rw [li 6 (by decide), li 7 (by decide), li 3 (by decide), li 8 (by decide), li 9 (by decide)]
            exact pI.2.1
          have aL : aA L = aA A + 1 := by
            show (gI L 27).toInt = _
            rw [li 27 (by decide)]
            exact aI
          have cL : CIa L := by
            unfold CIa aA
            rw [li 27 (by decide), la 22 (by decide)]
            exact pI.2.2.2.1
          have bL : BZ L := by
            intro i hi2 hir hk
            have e26 : aR L = aR J := by show (gI L 26).toInt = (gI J 26).toInt; rw [li 26 (by decide)]
            rw [e26] at hir
            rw [li 30 (by decide), la 12 (by decide)] at hk
            rw [li 30 (by decide), la 14 (by decide)]
            exact pI.2.2.2.2 i hi2 hir hk
          have pL : PI Zt B T L := ⟨mL, lL, by rw [li 26 (by decide)]; exact pI.2.2.1, cL, bL⟩
          have tL : aT L = aT J := by show (gI L 6).toInt = (gI J 6).toInt; rw [li 6 (by decide)]
          have eL' : aE L = aE J := by show (gI L 7).toInt = (gI J 7).toInt; rw [li 7 (by decide)]
          have n27' : (gI A 27).toNatClampNeg = (aA A).toNat := by omega
          have n28' : (gI A 28).toNatClampNeg = (aD A).toNat := by omega
          have x24 : gA L 24 = upd (gA A 24) (aD A).toNat (gI A 27) := by rw [la 24 (by decide), MU_A hI.2.1, h24, n28']
          have x22 : gA L 22 = upd (gA A 22) (aA A).toNat (-1) := by rw [la 22 (by decide), MU_A hI.2.1, h22, n27']
          have x20 : gB L 20 = vp_updL (gB A 20) (aA A).toNat p1 := by rw [lb 20, MU_B hI.2.1, h20, n27']
          have x23 : gB L 23 = vp_updL (gB A 23) (aD A).toNat p1 := by rw [lb 23, MU_B hI.2.1, h23, n28']
          have dL : DL A L 1 := by
            refine ⟨lD, aL, fun j hj => ?_, fun j hj => ?_, ?_, ?_, ?_⟩
            · rw [x24, x23, upd_at, updL_at, if_neg (by omega), if_neg (by omega)]
              exact ⟨rfl, rfl⟩
            · rw [x22, x20, upd_at, updL_at, if_neg (by omega), if_neg (by omega)]
              exact ⟨rfl, rfl⟩
            · rw [x24, upd_at, if_pos rfl]
              rfl
            · rw [x22, upd_at, if_pos rfl]
            · rw [x23, x20, updL_at, updL_at, if_pos rfl, if_pos rfl]
          have s23 : gB L 23 (aD A).toNat = p1 := by rw [x23, updL_at, if_pos rfl]
          have t8L : gI L 8 ≠ 0 := by rw [li 8 (by decide), t3]; decide
          have two := pI.2.1.2.2.2.2.2.2.1 t3
          refine Ok_B (k_next lL t8L) (fun M hM2 => ?_)
          have pM := PI_MU pL hM2.2.1
          have dM := DL_MU dL hM2.2.1 a0 (by decide)
          have uM := hM2.2.2.2
          have sM : gB M 23 (aD A).toNat = p1 := by rw [MU_B hM2.2.1]; exact s23
          refine Ok_B (k_X7_must pM.2.1 _) (fun N hN => ?_)
          have pN := PI_MU pM hN
          have dN := DL_MU dM hN a0 (by decide)
          have sN : gB N 23 (aD A).toNat = p1 := by rw [MU_B hN]; exact sM
          have posN : GD N → a + 5 ≤ aT N := fun q => by
            obtain ⟨_, u⟩ := hN.2.2.2 q
            omega
          refine Ok_B (k_X7_isGood N) (fun r77 hr77 => Ok_B (P := fun O => PI Zt B T O ∧ (GD O → DL A O 2 ∧ gB O 23 (aD A).toNat = p1 ∧ a + 6 ≤ aT O)) (Ok_c (fun c7 => Ok_s ⟨pN, fun q => absurd q (hr77.mp c7)⟩) (fun c7 => ?_)) (fun O hO => ?_))
          · have gN : GD N := Classical.byContradiction (fun q => c7 (hr77.mpr q))
            have pp := posN gN
            refine Ok_B (k_X7_ask pN (by have := dN.2.1; omega) IV_lit) (fun O hO => Ok_s ⟨hO.1, fun q => ?_⟩)
            obtain ⟨_, u1, u2⟩ := hO.2.2 q
            exact ⟨DL_ST dN hO.2.1 a0 (by decide) (by have := dN.2.1; omega), by rw [hO.2.1.2.2.1.2]; exact sN, by omega⟩
          · obtain ⟨pO, gO⟩ := hO
            refine Ok_B (k_X7_isGood O) (fun r88 hr88 => Ok_B (P := fun P => PI Zt B T P ∧ (GD P → DL A P 2 ∧ gB P 23 (aD A).toNat = p1 ∧ a + 7 ≤ aT P)) (Ok_c (fun c8 => Ok_s ⟨pO, fun q => absurd q (hr88.mp c8)⟩) (fun c8 => ?_)) (fun P hP => ?_))
            · refine Ok_B (k_X7_must pO.2.1 _) (fun P hP => Ok_s ⟨PI_MU pO hP, fun q => ?_⟩)
              obtain ⟨w1, w2⟩ := hP.2.2.2 q
              obtain ⟨v1, v2, v3⟩ := gO w1
              exact ⟨DL_MU v1 hP a0 (by decide), by rw [MU_B hP]; exact v2, by omega⟩
            · obtain ⟨pP, gP⟩ := hP
              refine Ok_B (k_X7_isGood P) (fun r99 hr99 => Ok_B (P := fun Q => PI Zt B T Q ∧ (GD Q → DL A Q 3 ∧ gB Q 23 (aD A).toNat = p1 ∧ a + 8 ≤ aT Q)) (Ok_c (fun c9 => Ok_s ⟨pP, fun q => absurd q (hr99.mp c9)⟩) (fun c9 => ?_)) (fun Q hQ => ?_))
              · have g9 : GD P := Classical.byContradiction (fun q => c9 (hr99.mpr q))
                obtain ⟨v1, v2, v3⟩ := gP g9
                refine Ok_B (k_X7_ask pP (by have := v1.2.1; omega) IV_lit) (fun Q hQ => Ok_s ⟨hQ.1, fun q => ?_⟩)
                obtain ⟨_, u1, u2⟩ := hQ.2.2 q
                exact ⟨DL_ST v1 hQ.2.1 a0 (by decide) (by have := v1.2.1; omega), by rw [hQ.2.1.2.2.1.2]; exact v2, by omega⟩
              · obtain ⟨pQ, gQ⟩ := hQ
                refine Ok_B (k_X7_isGood Q) (fun r110 hr110 => Ok_B (P := fun R => PI Zt B T R ∧ (GD R → DL A R 3 ∧ gB R 23 (aD A).toNat = p1 ∧ a + 9 ≤ aT R)) (Ok_c (fun c9 => Ok_s ⟨pQ, fun q => absurd q (hr110.mp c9)⟩) (fun c9 => ?_)) (fun R hR => ?_))
                · refine Ok_B (k_X7_must pQ.2.1 _) (fun R hR => Ok_s ⟨PI_MU pQ hR, fun q => ?_⟩)
                  obtain ⟨w1, w2⟩ := hR.2.2.2 q
                  obtain ⟨v1, v2, v3⟩ := gQ w1
                  exact ⟨DL_MU v1 hR a0 (by decide), by rw [MU_B hR]; exact v2, by omega⟩
                · obtain ⟨pR, gR⟩ := hR
                  refine Ok_B (k_X7_isGood R) (fun r121 hr121 => Ok_c (fun c9 => Ok_s (PL_bad pR.1 (hr121.mp c9))) (fun c9 => ?_))
                  have g9 : GD R := Classical.byContradiction (fun q => c9 (hr121.mpr q))
                  obtain ⟨v1, v2, v3⟩ := gR g9
                  have dR : CId R := CId_DL hd a0 v1 v2 h5
                  refine Ok_B (k_X7_must pR.2.1 _) (fun U hU => Ok_s (PL_must pR dR hU (fun _ => ?_) (fun _ => ?_) (fun _ => ?_)))
                  · have := v1.2.1
                    omega
                  · have := v1.1
                    omega
                  · omega
        · exact absurd gJ hJ.2
    · exact absurd gA' hA.2
theorem k_X7_readLine {Zt B T : Int} {S : SS} (h : PQ Zt B T 0 S) (gS : GD S) (ht : gI S 8 ≠ 0) : Ok (f_X7_readLine S) (fun U => PL Zt B T (aT S + 1) U) := by
  obtain ⟨pS, dS, qS⟩ := id h
  obtain ⟨q1, q2, _⟩ := qS gS
  have bad : Ok (zB (f_X7_wrong S) (fun (s : SS) => some s)) (fun U => PL Zt B T (aT S + 1) U) := Ok_B (k_X7_wrong S) (fun U hU => Ok_s (PL_bad (M7_FF pS.1 hU.1) hU.2))
  refine Ok_B (k_X7_isWord S _) (fun r1 _ => Ok_c (fun _ => ?_) (fun _ => Ok_B (k_X7_tellAll pS dS q1 q2 _) (fun U hU => Ok_s hU)))
  refine Ok_B (k_X7_isWord S _) (fun r6 _ => Ok_c (fun _ => ?_) (fun _ => Ok_B (k_X7_tellAll pS dS q1 q2 _) (fun U hU => Ok_s hU)))
  refine Ok_B (k_X7_isWord S _) (fun r11 _ => Ok_c (fun _ => ?_) (fun _ => Ok_B (k_X7_readRegister pS dS q1 q2 ht) (fun U hU => Ok_s hU)))
  refine Ok_c (fun _ => Ok_l (Ok_l ?_)) (fun _ => bad)
  refine Ok_B (k_next pS.2.1 ht) (fun A hA => ?_)
  have pA := PI_MU pS hA.2.1
  have dA := CId_MU dS hA.2.1
  have uA := hA.2.2.1
  have aA1 := aA_MU hA.2.1
  have aD1 := aD_MU hA.2.1
  have gA' : GD A := (GD_FX hA.1).mpr gS
  refine Ok_B (k_X7_is pA.2.1 _) (fun r27 hr27 => Ok_c (fun _ => ?_) (fun c => ?_))
  · refine Ok_B (k_X7_is pA.2.1 _) (fun r32 hr32 => Ok_c (fun _ => Ok_B (k_X7_wrong A) (fun U hU => Ok_s (PL_bad (M7_FF pA.1 hU.1) hU.2))) (fun c => ?_))
    exact Ok_B (k_X7_readDriver (a := aT S) pA dA gA' (hr32.2 c) (by omega) (by omega) uA _ _) (fun U hU => Ok_s hU)
  · exact Ok_B (k_X7_readGate (a := aT S + 1) ⟨pA, dA, fun _ => ⟨by omega, by omega, uA⟩⟩ gA' (hr27.2 c) _ _) (fun U hU => Ok_s hU)
