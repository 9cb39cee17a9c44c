theorem ti_nn {x : Int32} (h : (0 : Int32) ≤ x) : 0 ≤ x.toInt := by
  rw [ti_le] at h
  have t0 : (0 : Int32).toInt = 0 := by decide
  rw [t0] at h
  exact h
theorem k_X7_readGate {Zt B T a : Int} {S : SS} (h : PQ Zt B T a S) (gS : GD S) (t5 : gI S 8 = 5) (p1 : Int64) (p2 : Int32) : Ok (f_X7_readGate S p1 p2) (fun U => PL Zt B T a U) := by
  refine Ok_B (P := fun A => (A = S ∧ gI S 26 ≠ 60) ∨ (FF S A ∧ ¬ GD A)) (Ok_c (fun _ => Ok_B (k_X7_fails S (by decide) _) (fun A hA => Ok_s (Or.inr hA))) (fun c => Ok_s (Or.inl ⟨rfl, c⟩))) (fun A hA => ?_)
  have pA : PQ Zt B T a A := by
    rcases hA with ⟨rfl, _⟩ | hA
    · exact h
    · exact PQ_bad h hA.1 hA.2
  refine Ok_B (k_X7_newOf pA.1.1.1.1 pA.1.2.2.1 p1) (fun r8 _ => Ok_B (P := fun C => (C = A) ∨ (FF A C ∧ ¬ GD C)) (Ok_c (fun _ => Ok_s (Or.inl rfl)) (fun _ => Ok_B (k_X7_fails A (by decide) _) (fun C hC => Ok_s (Or.inr hC)))) (fun C hC => ?_))
  have pC : PQ Zt B T a C := by
    rcases hC with rfl | hC
    · exact pA
    · exact PQ_bad pA hC.1 hC.2
  refine Ok_B (k_X7_isGood C) (fun r19 hr19 => Ok_c (fun _ => Ok_s (PL_PQ pC)) (fun c => ?_))
  have gC : GD C := Classical.byContradiction (fun q => c (hr19.mpr q))
  have eC : C = S ∧ gI S 26 ≠ 60 := by
    rcases hC with rfl | hC
    · rcases hA with hA | hA
      · exact hA
      · exact absurd gC hA.2
    · exact absurd gC hC.2
  obtain ⟨rfl, h60⟩ := eC
  obtain ⟨⟨h1, hl, hr, hc, hb⟩, hd, hpos⟩ := id h
  obtain ⟨m1, m2, m3, m4, m5, m6⟩ := id h1
  obtain ⟨n1, n2, n3, n4, n5, n6⟩ := id m1
  have r59 : IV 0 59 (gI C 26) := IV_ne_hi h60 hr (IV_lit (a := 60) (b := 60)) (by decide) (by decide) (by decide)
  refine Ok_L (fun n en => ?_)
  have hn : IV 0 119 n := by rw [en]; exact k_ix n1 r59
  refine Ok_G (k_in120 hn) (Ok_L (fun D eD => Ok_L (fun E eE => Ok_L (fun F eF => Ok_L (fun G eG => ?_)))))
  have h26 : gI G 26 = gI C 26 := by rw [eG, gI_sA, eF, gI_sA, eE, gI_sA, eD, gI_sB]
  refine Ok_G (by rw [h26]; exact k_in60 r59) (Ok_L (fun I eI => Ok_L (fun J eJ => ?_)))
  have i26 : gI I 26 = gI C 26 := by rw [eI, gI_sA, h26]
  have ji : ∀ k : Nat, k ≠ 26 → gI J k = gI C k := fun k q => by rw [eJ, gI_ne q, eI, gI_sA, eG, gI_sA, eF, gI_sA, eE, gI_sA, eD, gI_sB]
  have ja : ∀ k : Nat, k ≠ 12 → k ≠ 14 → k ≠ 15 → k ≠ 18 → gA J k = gA C k := fun k a1 a3 a4 a5 => by rw [eJ, gA_sI, eI, gA_ne a5, eG, gA_ne a4, eF, gA_ne a3, eE, gA_ne a1, eD, gA_sB]
  have jb : ∀ k : Nat, k ≠ 11 → gB J k = gB C k := fun k q => by rw [eJ, gB_sI, eI, gB_sA, eG, gB_sA, eF, gB_sA, eE, gB_sA, eD, gB_sB, if_neg q]
  have j12 : gA J 12 = upd (gA C 12) n.toNatClampNeg 2 := by rw [eJ, gA_sI, eI, gA_ne (by decide), eG, gA_ne (by decide), eF, gA_ne (by decide), eE, gA_eq, eD, gA_sB]
  have j14 : gA J 14 = upd (gA C 14) n.toNatClampNeg 0 := by rw [eJ, gA_sI, eI, gA_ne (by decide), eG, gA_ne (by decide), eF, gA_eq, eE, gA_ne (by decide), eD, gA_sB]
  have j15 : gA J 15 = upd (gA C 15) n.toNatClampNeg 1 := by rw [eJ, gA_sI, eI, gA_ne (by decide), eG, gA_eq, eF, gA_ne (by decide), eE, gA_ne (by decide), eD, gA_sB]
  have inc : (gI C 26 + (1 : Int32)).toInt = aR C + 1 := k_inc r59.1 (n := 59) r59.2 (by decide)
  have j26 : (gI J 26).toInt = aR C + 1 := by rw [eJ, gI_eq, i26]; exact inc
  have jR : aR J = aR C + 1 := j26
  have nJ : N7 J := by
    refine ⟨by rw [ji 30 (by decide)]; exact n1, by rw [ji 29 (by decide)]; exact n2, by rw [ja 16 (by decide) (by decide) (by decide) (by decide)]; exact n3, by rw [j14]; exact AR_upd n4 IV_00, fun j => ?_, by rw [j15]; exact AR_upd n6 IV_01⟩
    rw [j12, j14, upd_at, upd_at]
    by_cases hj : j = n.toNatClampNeg
    · rw [if_pos hj, if_pos hj]
      exact fun _ => IV_00
    · rw [if_neg hj, if_neg hj]
      exact n5 j
  have mJ : M7 Zt B T J := ⟨nJ, by rw [ja 44 (by decide) (by decide) (by decide) (by decide)]; exact m2, by rw [ji 47 (by decide)]; exact m3, by rw [ja 38 (by decide) (by decide) (by decide) (by decide)]; exact m4, by rw [ji 2 (by decide)]; exact m5, by rw [ja 32 (by decide) (by decide) (by decide) (by decide)]; exact m6⟩
  have lJ : LX J := by
    unfold LX aT aE aZ
    rw [ji 6 (by decide), ji 7 (by decide), ji 3 (by decide), ji 8 (by decide), ji 9 (by decide)]
    exact hl
  have cJ : CIa J := by
    unfold CIa aA
    rw [ji 27 (by decide), ja 22 (by decide) (by decide) (by decide) (by decide)]
    exact hc
  have bJ : BZ J := by
    intro i hi hir hk
    rw [ji 30 (by decide), j12, upd_at] at hk
    rw [ji 30 (by decide), j14, upd_at]
    by_cases hj : ((60 : Int32) * gI C 30 + i).toNatClampNeg = n.toNatClampNeg
    · rw [if_pos hj]
    · rw [if_neg hj] at hk
      rw [if_neg hj]
      refine hb i hi ?_ hk
      rw [jR] at hir
      rcases Int.lt_or_le i.toInt (aR C) with w | w
      · exact w
      · have : i = gI C 26 := Int32.toInt_inj.mp (by show i.toInt = aR C; omega)
        exact absurd (by rw [this, en]) hj
  have dJ : CId J := CId_eq hd (ji 27 (by decide)) (ji 28 (by decide)) (ja 22 (by decide) (by decide) (by decide) (by decide)) (ja 24 (by decide) (by decide) (by decide) (by decide)) (jb 20 (by decide)) (jb 23 (by decide))
  have qJ : PQ Zt B T a J := by
    refine ⟨⟨mJ, lJ, ⟨by have := r59.1; rw [j26]; show 0 ≤ (gI C 26).toInt + 1; omega, by have := r59.2; rw [j26]; show (gI C 26).toInt + 1 ≤ 60; omega⟩, cJ, bJ⟩, dJ, fun _ => ?_⟩
    unfold aA aD aT
    rw [ji 27 (by decide), ji 28 (by decide), ji 6 (by decide)]
    exact hpos gC
  have t8 : gI J 8 ≠ 0 := by rw [ji 8 (by decide), t5]; decide
  have k12 : gA J 12 n.toNatClampNeg = 2 := by rw [j12, upd_at, if_pos rfl]
  have k14 : gA J 14 n.toNatClampNeg = 0 := by rw [j14, upd_at, if_pos rfl]
  refine Ok_B (k_next lJ t8) (fun K hK => ?_)
  have qK := PQ_MU qJ hK.2.1
  have kK : gA K 12 n.toNatClampNeg = 2 := by rw [MU_A hK.2.1]; exact k12
  have zK : gA K 14 n.toNatClampNeg = 0 := by rw [MU_A hK.2.1]; exact k14
  refine Ok_B (P := fun v => 0 ≤ v.toInt → gI K 8 ≠ 0) (Ok_c (fun c3 => Ok_B (k_X7_gateOf _) (fun v _ => Ok_s (fun _ => by rw [c3]; decide))) (fun _ => Ok_s (fun q => absurd q (by decide)))) (fun v49 h49 => ?_)
  refine Ok_B (P := fun L => (L = K ∧ gI K 8 ≠ 0) ∨ (FF K L ∧ ¬ GD L)) (Ok_c (fun c4 => Ok_s (Or.inl ⟨rfl, h49 (ti_nn c4)⟩)) (fun _ => Ok_B (k_X7_wrong K) (fun L hL => Ok_s (Or.inr hL)))) (fun L hL => ?_)
  refine Ok_B (k_X7_isGood L) (fun r57 hr57 => Ok_c (fun c5 => Ok_s ?_) (fun c5 => ?_))
  · rcases hL with ⟨rfl, _⟩ | hL
    · exact PL_PQ qK
    · exact PL_PQ (PQ_bad qK hL.1 hL.2)
  · have gL' : GD L := Classical.byContradiction (fun q => c5 (hr57.mpr q))
    rcases hL with ⟨rfl, t9⟩ | hL
    · refine Ok_L (fun M eM => ?_)
      have qM : PQ Zt B T a M := by
        rw [eM]
        exact ⟨PI_13 qK.1, CId_eq qK.2.1 rfl rfl (gA_ne (by decide)) (gA_ne (by decide)) rfl rfl, qK.2.2⟩
      have kM : gA M 12 n.toNatClampNeg = 2 := by rw [eM, gA_ne (by decide)]; exact kK
      have zM : gA M 14 n.toNatClampNeg = 0 := by rw [eM, gA_ne (by decide)]; exact zK
      have tM : gI M 8 ≠ 0 := by rw [eM, gI_sA]; exact t9
      refine Ok_B (k_next qM.1.2.1 tM) (fun N hN => ?_)
      have qN := PQ_MU qM hN.2.1
      have kN : gA N 12 n.toNatClampNeg = 2 := by rw [MU_A hN.2.1]; exact kM
      have zN' : gA N 14 n.toNatClampNeg = 0 := by rw [MU_A hN.2.1]; exact zM
      refine Ok_B (k_X7_is qN.1.2.1 _) (fun r68 hr68 => Ok_B (P := fun O => PQ Zt B T a O ∧ gA O 12 n.toNatClampNeg = 2 ∧ gA O 14 n.toNatClampNeg = 0 ∧ (GD O → gI O 8 = 5)) (Ok_c (fun _ => Ok_B (k_X7_wrong N) (fun O hO => Ok_s ⟨PQ_bad qN hO.1 hO.2, by rw [FF_A hO.1]; exact kN, by rw [FF_A hO.1]; exact zN', fun q => absurd q hO.2⟩)) (fun c6 => Ok_s ⟨qN, kN, zN', fun _ => hr68.2 c6⟩)) (fun O hO => ?_))
      obtain ⟨qO, kO, zO, tO⟩ := hO
      obtain ⟨mo, emo, hmo⟩ := k_X7_mostOf v49
      refine Ok_S (Ok_w (k_X7_readGate_174 hn emo hmo qO kO zO tO) (fun v hv => ?_))
      cases v with
      | inl t => exact PL_bad hv.1 hv.2
      | inr X => exact k_gate_tail hv
    · exact absurd gL' hL.2
/-- how many DRIVERS a BUS of this NAME has had -/
theorem k_X7_had {S : SS} (h0 : 0 ≤ aD S) (h1 : aD S ≤ 200) (p1 : Int64) : Ok (zI (b_X7_readDriver_6 S p1) zF ((0 : Int32), (0 : Int32))) (fun r => r.toInt = cnt (gB S 23) p1 (aD S).toNat) := by
  refine Ok_F (fun v : Int32 × Int32 => IV 0 200 v.2 ∧ v.2.toInt ≤ aD S ∧ v.1.toInt = cnt (gB S 23) p1 v.2.toInt.toNat ∧ v.1.toInt ≤ v.2.toInt) (fun v => (200 - v.2.toInt).toNat) (fun v hv => ?_) ⟨IV_00, ?_, ?_, Int.le_refl _⟩ (mz 200)
  · obtain ⟨x, v⟩ := v
    obtain ⟨hv, hle, hx, hxv⟩ : IV 0 200 v ∧ v.toInt ≤ aD S ∧ x.toInt = cnt (gB S 23) p1 v.toInt.toNat ∧ x.toInt ≤ v.toInt := hv
    have x0 : 0 ≤ x.toInt := by omega
    refine Ok_c (fun c => Ok_s ?_) (fun c => ?_)
    · rw [ti_le] at c
      have c : aD S ≤ v.toInt := c
      have e : v.toInt = aD S := by omega
      show x.toInt = _
      rw [hx, e]
    · have ⟨g1, g2, g3, g4, g5⟩ := lp_up (N := 200) (by decide) hv h1 c
      have g4 : v.toInt < aD S := g4
      have nv := ti_nat g1.1
      have ev : (v + 1).toInt.toNat = v.toInt.toNat + 1 := by rw [g5]; have := g1.1; omega
      have en : v.toNatClampNeg = v.toInt.toNat := rfl
      refine Ok_G (IV_in g1 (by decide) (by decide)) (Ok_c (fun c2 => Ok_l (Ok_l (Ok_s (OkI_l ⟨g2, ?_, ?_, ?_⟩ g3)))) (fun c2 => Ok_l (Ok_l (Ok_s (OkI_l ⟨g2, ?_, ?_, ?_⟩ g3)))))
      · show (v + 1).toInt ≤ aD S
        omega
      · show (x + (1 : Int32)).toInt = cnt (gB S 23) p1 (v + 1).toInt.toNat
        rw [k_inc x0 (n := 200) (by have := g1.2; omega) (by decide), ev, hx]
        show (_ : Int) + 1 = ((cnt (gB S 23) p1 v.toInt.toNat + (if gB S 23 v.toInt.toNat = p1 then 1 else 0) : Nat) : Int)
        rw [if_pos (by rw [← en]; exact lc_eq.mp c2)]
        omega
      · show (x + (1 : Int32)).toInt ≤ (v + 1).toInt
        rw [k_inc x0 (n := 200) (by have := g1.2; omega) (by decide)]
        omega
      · show (v + 1).toInt ≤ aD S
        omega
      · show (x + (0 : Int32)).toInt = cnt (gB S 23) p1 (v + 1).toInt.toNat
        rw [Int32.add_zero, ev, hx]
        show (_ : Int) = ((cnt (gB S 23) p1 v.toInt.toNat + (if gB S 23 v.toInt.toNat = p1 then 1 else 0) : Nat) : Int)
        rw [if_neg (by rw [← en]; exact fun e => c2 (lc_eq.mpr e))]
        omega
      · show (x + (0 : Int32)).toInt ≤ (v + 1).toInt
        rw [Int32.add_zero]
        omega
  · show (0 : Int32).toInt ≤ aD S
    exact h0
  · show (0 : Int32).toInt = cnt (gB S 23) p1 (0 : Int32).toInt.toNat
    rfl
