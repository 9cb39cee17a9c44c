/-! NAMES told and asked for -/
def cnt (f : Nat → Int64) (nm : Int64) : Nat → Nat
  | 0 => 0
  | n + 1 => cnt f nm n + (if f n = nm then 1 else 0)
theorem cnt_mono {f : Nat → Int64} {nm : Int64} {n m : Nat} (h : n ≤ m) : cnt f nm n ≤ cnt f nm m := by
  induction m with
  | zero =>
    have : n = 0 := by omega
    rw [this]
    exact Nat.le_refl _
  | succ m ih =>
    rcases Nat.lt_or_ge m n with q | q
    · have : n = m + 1 := by omega
      rw [this]
      exact Nat.le_refl _
    · have := ih q
      show cnt f nm n ≤ cnt f nm m + (if f m = nm then 1 else 0)
      omega
theorem cnt_same {f g : Nat → Int64} {nm : Int64} {n : Nat} (h : ∀ j, j < n → f j = g j) : cnt f nm n = cnt g nm n := by
  induction n with
  | zero => rfl
  | succ n ih =>
    show cnt f nm n + (if f n = nm then 1 else 0) = cnt g nm n + (if g n = nm then 1 else 0)
    rw [ih (fun j q => h j (by omega)), h n (by omega)]
def CIa (S : SS) : Prop := 0 ≤ aA S ∧ ∀ k : Nat, (k : Int) < aA S → IV (-1) 1439 (gA S 22 k)
def CId (S : SS) : Prop := 0 ≤ aD S ∧ (∀ k : Nat, (k : Int) < aD S → 0 ≤ (gA S 24 k).toInt ∧ (gA S 24 k).toInt + 3 ≤ aA S ∧ gB S 23 k = gB S 20 (gA S 24 k).toNatClampNeg ∧ gA S 22 (gA S 24 k).toNatClampNeg = -1) ∧ ∀ nm : Int64, cnt (gB S 23) nm (aD S).toNat ≤ 6
def BZ (S : SS) : Prop := ∀ i : Int32, IV 0 59 i → i.toInt < aR S → gA S 12 ((60 : Int32) * gI S 30 + i).toNatClampNeg = 1 → gA S 14 ((60 : Int32) * gI S 30 + i).toNatClampNeg = 0
/-- the parser's state but for the DRIVERS -/
def PI (Zt B T : Int) (S : SS) : Prop := M7 Zt B T S ∧ LX S ∧ IV 0 60 (gI S 26) ∧ CIa S ∧ BZ S
/-- nothing of NODES and DRIVERS changes, what was asked for stays -/
def ST (S U : SS) : Prop := (∀ k : Nat, k = 3 ∨ k = 26 ∨ k = 28 ∨ k = 29 ∨ k = 30 → gI U k = gI S k) ∧ (∀ k : Nat, k = 12 ∨ k = 13 ∨ k = 14 ∨ k = 15 ∨ k = 24 ∨ k = 25 → gA U k = gA S k) ∧ (gB U 11 = gB S 11 ∧ gB U 23 = gB S 23) ∧ (∀ j : Nat, (j : Int) < aA S → gA U 22 j = gA S 22 j ∧ gB U 20 j = gB S 20 j) ∧ aA S ≤ aA U
theorem ST_r (S : SS) : ST S S := ⟨fun _ _ => rfl, fun _ _ => rfl, ⟨rfl, rfl⟩, fun _ _ => ⟨rfl, rfl⟩, Int.le_refl _⟩
theorem ST_t {S U V : SS} (h : ST S U) (g : ST U V) : ST S V := by
  obtain ⟨h1, h2, h3, h4, h5⟩ := h
  obtain ⟨g1, g2, g3, g4, g5⟩ := g
  refine ⟨fun k q => (g1 k q).trans (h1 k q), fun k q => (g2 k q).trans (h2 k q), ⟨g3.1.trans h3.1, g3.2.trans h3.2⟩, fun j q => ?_, by omega⟩
  have w := g4 j (by omega)
  exact ⟨w.1.trans (h4 j q).1, w.2.trans (h4 j q).2⟩
theorem ST_MU {S U : SS} (f : MU S U) : ST S U := by
  refine ⟨fun k q => MU_i f (by omega), fun k _ => MU_A f k, ⟨MU_B f 11, MU_B f 23⟩, fun j _ => ⟨by rw [MU_A f], by rw [MU_B f]⟩, ?_⟩
  show (gI S 27).toInt ≤ (gI U 27).toInt
  rw [MU_i f (by decide)]
  exact Int.le_refl _
theorem ST_FX {S U : SS} (f : FX S U) : ST S U := by
  refine ⟨fun k q => FX_i f (by omega), fun k _ => FX_A f k, ⟨FX_B f 11, FX_B f 23⟩, fun j _ => ⟨by rw [FX_A f], by rw [FX_B f]⟩, ?_⟩
  show (gI S 27).toInt ≤ (gI U 27).toInt
  rw [FX_i f (by decide)]
  exact Int.le_refl _
theorem ST_R {S U : SS} (h : ST S U) : aR U = aR S := by
  show (gI U 26).toInt = (gI S 26).toInt
  rw [h.1 26 (by decide)]
theorem ST_D {S U : SS} (h : ST S U) : aD U = aD S := by
  show (gI U 28).toInt = (gI S 28).toInt
  rw [h.1 28 (by decide)]
theorem CId_ST {S U : SS} (hd : CId S) (f : ST S U) : CId U := by
  obtain ⟨h0, h1, h2⟩ := hd
  have e24 : gA U 24 = gA S 24 := f.2.1 24 (by decide)
  have e23 : gB U 23 = gB S 23 := f.2.2.1.2
  have eD := ST_D f
  refine ⟨by rw [eD]; exact h0, fun k hk => ?_, fun nm => ?_⟩
  · rw [eD] at hk
    obtain ⟨a, b, c, d⟩ := h1 k hk
    have hn := ti_nat a
    have w := f.2.2.2.1 (gA S 24 k).toNatClampNeg (by omega)
    have g5 := f.2.2.2.2
    rw [e24, e23]
    exact ⟨a, by omega, by rw [w.2]; exact c, by rw [w.1]; exact d⟩
  · rw [eD, e23]
    exact h2 nm
theorem BZ_ST {S U : SS} (h : BZ S) (f : ST S U) : BZ U := by
  intro i hi hr hk
  rw [ST_R f] at hr
  rw [f.1 30 (by decide), f.2.1 12 (by decide)] at hk
  rw [f.1 30 (by decide), f.2.1 14 (by decide)]
  exact h i hi hr hk
theorem CIa_MU {S U : SS} (h : CIa S) (f : MU S U) : CIa U := by
  unfold CIa aA
  rw [MU_i f (by decide), MU_A f]
  exact h
theorem CIa_FX {S U : SS} (h : CIa S) (f : FX S U) : CIa U := by
  unfold CIa aA
  rw [FX_i f (by decide), FX_A f]
  exact h
theorem PI_MU {Zt B T : Int} {S U : SS} (h : PI Zt B T S) (f : MU S U) : PI Zt B T U := by
  obtain ⟨h1, h2, h3, h4, h5⟩ := h
  exact ⟨M7_MU h1 f, f.1, by rw [MU_i f (by decide)]; exact h3, CIa_MU h4 f, BZ_ST h5 (ST_MU f)⟩
theorem PI_FX {Zt B T : Int} {S U : SS} (h : PI Zt B T S) (f : FX S U) (l : LX U) : PI Zt B T U := by
  obtain ⟨h1, h2, h3, h4, h5⟩ := h
  exact ⟨M7_FX h1 f, l, by rw [FX_i f (by decide)]; exact h3, CIa_FX h4 f, BZ_ST h5 (ST_FX f)⟩
theorem aA_MU {S U : SS} (f : MU S U) : aA U = aA S := by
  show (gI U 27).toInt = (gI S 27).toInt
  rw [MU_i f (by decide)]
theorem aA_FX {S U : SS} (f : FX S U) : aA U = aA S := by
  show (gI U 27).toInt = (gI S 27).toInt
  rw [FX_i f (by decide)]
/-- ask: a NAME is asked for, or a FAULT is told -/
theorem k_X7_ask {Zt B T : Int} {S : SS} (h : PI Zt B T S) (h2 : 2 * aA S ≤ aT S) {p1 : Int32} (hp : IV (-1) 1439 p1) : Ok (f_X7_ask S p1) (fun U => PI Zt B T U ∧ ST S U ∧ (GD U → GD S ∧ aT S + 1 ≤ aT U ∧ aA U = aA S + 1)) := by
  obtain ⟨h1, hl, hr, hc, hb⟩ := id h
  refine Ok_B (P := fun A => (A = S ∧ gI S 8 = 2) ∨ (FF S A ∧ ¬ GD A)) (Ok_c (fun c => Ok_s (Or.inl ⟨rfl, c⟩)) (fun _ => Ok_B (k_X7_wrong S) (fun U hU => Ok_s (Or.inr hU)))) (fun A hA => ?_)
  refine Ok_B (k_X7_isGood A) (fun r hr2 => Ok_c (fun c => Ok_s ?_) (fun c => ?_))
  · -- a FAULT
    have ng : ¬ GD A := hr2.mp c
    have m : MU S A := by
      rcases hA with ⟨rfl, _⟩ | hA
      · exact ⟨hl, rfl, fun _ _ _ _ _ _ _ => rfl, fun q => absurd q ng⟩
      · exact MU_FF hl hA.1 hA.2
    exact ⟨PI_MU h m, ST_MU m, fun q => absurd q ng⟩
  · have gd : GD A := Classical.byContradiction (fun q => c (hr2.mpr q))
    rcases hA with ⟨rfl, ht⟩ | hA
    · -- it is good and stands at a NAME
      obtain ⟨l1, l2, l3, l4, l5, l6, l7, l8⟩ := id hl
      have l9 := l6 (by rw [ht]; decide)
      have i0 : 0 ≤ (gI A 27).toInt := hc.1
      have i1 : (gI A 27).toInt ≤ 999 := by show aA A ≤ 999; omega
      have hv : vp_in (gI A 27) 1000 := ti_in i0 (by omega)
      refine Ok_G hv (Ok_L (fun C eC => ?_))
      have c27 : gI C 27 = gI A 27 := by rw [eC, gI_sB]
      refine Ok_G (by rw [c27]; exact hv) (Ok_L (fun D eD => ?_))
      have d27 : gI D 27 = gI A 27 := by rw [eD, gI_sA, c27]
      refine Ok_G (by rw [d27]; exact hv) (Ok_L (fun E eE => Ok_L (fun F eF => ?_)))
      have inc : (gI A 27 + (1 : Int32)).toInt = aA A + 1 := k_inc i0 (n := 999) i1 (by decide)
      have e27 : gI E 27 = gI A 27 := by rw [eE, gI_sA, d27]
      have mC : M7 Zt B T C := by rw [eC]; exact h1
      have mD : M7 Zt B T D := by rw [eD]; exact M7_sA (by decide) mC
      have mE : M7 Zt B T E := by rw [eE]; exact M7_sA (by decide) mD
      have mF : M7 Zt B T F := by rw [eF]; exact M7_sI (by decide) mE
      have fi : ∀ k : Nat, k ≠ 27 → gI F k = gI A k := fun k q => by rw [eF, gI_ne q, eE, gI_sA, eD, gI_sA, eC, gI_sB]
      have fa : ∀ k : Nat, k ≠ 21 → k ≠ 22 → gA F k = gA A k := fun k q1 q2 => by rw [eF, gA_sI, eE, gA_ne q2, eD, gA_ne q1, eC, gA_sB]
      have fb : ∀ k : Nat, k ≠ 20 → gB F k = gB A k := fun k q => by rw [eF, gB_sI, eE, gB_sA, eD, gB_sA, eC, gB_sB, if_neg q]
      have f22 : gA F 22 = upd (gA A 22) (gI A 27).toNatClampNeg p1 := by rw [eF, gA_sI, eE, gA_eq, d27, eD, gA_ne (by decide), eC, gA_sB]
      have f20 : gB F 20 = vp_updL (gB A 20) (gI A 27).toNatClampNeg (gL A 10) := by rw [eF, gB_sI, eE, gB_sA, eD, gB_sA, eC, gB_sB, if_pos rfl]
      have f27 : aA F = aA A + 1 := by show (gI F 27).toInt = _; rw [eF, gI_eq, e27]; exact inc
      have lF : LX F := by
        unfold LX aT aE aZ
        rw [fi 6 (by decide), fi 7 (by decide), fi 3 (by decide), fi 8 (by decide), fi 9 (by decide)]
        exact hl
      have n27 := ti_nat i0
      have n27' : ((gI A 27).toNatClampNeg : Int) = aA A := n27
      have sF : ST A F := by
        refine ⟨fun k q => fi k (by omega), fun k q => fa k (by omega) (by omega), ⟨fb 11 (by decide), fb 23 (by decide)⟩, fun j q => ?_, by omega⟩
        have hne : j ≠ (gI A 27).toNatClampNeg := by omega
        rw [f22, f20, upd_at, updL_at, if_neg hne, if_neg hne]
        exact ⟨rfl, rfl⟩
      have cF : CIa F := by
        refine ⟨by have := hc.1; omega, fun k q => ?_⟩
        rw [f22, upd_at]
        by_cases hk : k = (gI A 27).toNatClampNeg
        · rw [if_pos hk]; exact hp
        · rw [if_neg hk]
          exact hc.2 k (by omega)
      have pF : PI Zt B T F := ⟨mF, lF, by rw [fi 26 (by decide)]; exact hr, cF, BZ_ST hb sF⟩
      have t8 : gI F 8 ≠ 0 := by rw [fi 8 (by decide), ht]; decide
      have tF : aT F = aT A := by show (gI F 6).toInt = (gI A 6).toInt; rw [fi 6 (by decide)]
      refine Ok_B (k_next lF t8) (fun U hU => Ok_s ⟨PI_MU pF hU.2.1, ST_t sF (ST_MU hU.2.1), fun _ => ⟨gd, by have := hU.2.2.1; omega, by rw [aA_MU hU.2.1]; exact f27⟩⟩)
    · exact absurd gd hA.2
/-- a NODE is told, or a FAULT -/
theorem k_X7_tell {Zt B T : Int} {S : SS} (h : PI Zt B T S) (p1 : Int32) : Ok (f_X7_tell S p1) (fun w => PI Zt B T w.2 ∧ ((∀ k : Nat, k = 3 ∨ k = 27 ∨ k = 28 ∨ k = 29 ∨ k = 30 → gI w.2 k = gI S k) ∧ (∀ k : Nat, k = 22 ∨ k = 24 ∨ k = 25 → gA w.2 k = gA S k) ∧ (gB w.2 20 = gB S 20 ∧ gB w.2 23 = gB S 23)) ∧ (GD w.2 → GD S ∧ aT S + 1 ≤ aT w.2 ∧ IV 0 119 w.1 ∧ gA w.2 12 w.1.toNatClampNeg = p1)) := by
  obtain ⟨h1, hl, hr, hc, hb⟩ := id h
  have bad : ∀ A : SS, FF S A → ¬ GD A → PI Zt B T A ∧ ((∀ k : Nat, k = 3 ∨ k = 27 ∨ k = 28 ∨ k = 29 ∨ k = 30 → gI A k = gI S k) ∧ (∀ k : Nat, k = 22 ∨ k = 24 ∨ k = 25 → gA A k = gA S k) ∧ (gB A 20 = gB S 20 ∧ gB A 23 = gB S 23)) := fun A f g => ⟨PI_MU h (MU_FF hl f g), fun k q => FF_i f (by omega), fun k _ => FF_A f k, FF_B f 20, FF_B f 23⟩
  refine Ok_B (P := fun A => (A = S ∧ gI S 8 = 2 ∧ gI S 26 ≠ 60) ∨ (FF S A ∧ ¬ GD A)) (Ok_c (fun c => Ok_c (fun _ => Ok_B (k_X7_wrong S) (fun U hU => Ok_s (Or.inr hU))) (fun c2 => Ok_s (Or.inl ⟨rfl, c, c2⟩))) (fun _ => Ok_B (k_X7_wrong S) (fun U hU => Ok_s (Or.inr hU)))) (fun A hA => ?_)
  refine Ok_B (k_X7_isGood A) (fun r hr2 => Ok_B (P := fun C => (C = S ∧ gI S 8 = 2 ∧ gI S 26 ≠ 60) ∨ (FF S C ∧ ¬ GD C)) (Ok_c (fun c => Ok_s ?_) (fun c => ?_)) (fun C hC => ?_))
  · rcases hA with hA | hA
    · obtain ⟨rfl, q⟩ := hA
      exact Or.inl ⟨rfl, q⟩
    · exact Or.inr hA
  · rcases hA with hA | hA
    · obtain ⟨rfl, q⟩ := hA
      refine Ok_B (k_X7_newOf h1.1.1 hr _) (fun r2 _ => Ok_c (fun _ => Ok_s (Or.inl ⟨rfl, q⟩)) (fun _ => ?_))
      exact Ok_B (k_X7_fails A (by decide) _) (fun U hU => Ok_s (Or.inr hU))
    · exact absurd (hr2.mpr hA.2) c
  · refine Ok_B (k_X7_isGood C) (fun r3 hr3 => Ok_c (fun c => Ok_s ?_) (fun c => ?_))
    · have ng : ¬ GD C := hr3.mp c
      rcases hC with hC | hC
      · obtain ⟨rfl, q⟩ := hC
        exact ⟨h, ⟨fun _ _ => rfl, fun _ _ => rfl, rfl, rfl⟩, fun q => absurd q ng⟩
      · exact ⟨(bad C hC.1 hC.2).1, (bad C hC.1 hC.2).2, fun q => absurd q ng⟩
    · have gd : GD C := Classical.byContradiction (fun q => c (hr3.mpr q))
      rcases hC with hC | hC
      · obtain ⟨rfl, ht, h60⟩ := hC
        obtain ⟨m1, m2, m3, m4, m5, m6⟩ := id h1
        obtain ⟨n1, n2, n3, n4, n5, n6⟩ := id m1
        have r59 : IV 0 59 (gI C 26) := IV_ne_hi h60 hr (IV_lit (a := 60) (b := 60)) (by decide) (by decide) (by decide)
        refine Ok_L (fun n en => ?_)
        have hn : IV 0 119 n := by rw [en]; exact k_ix n1 r59
        refine Ok_G (k_in120 hn) (Ok_L (fun D eD => Ok_L (fun E eE => Ok_L (fun F eF => Ok_L (fun G eG => Ok_L (fun H eH => ?_))))))
        have h26 : gI H 26 = gI C 26 := by rw [eH, gI_sA, eG, gI_sA, eF, gI_sA, eE, gI_sA, eD, gI_sB]
        refine Ok_G (by rw [h26]; exact k_in60 r59) (Ok_L (fun I eI => Ok_L (fun J eJ => ?_)))
        have i26 : gI I 26 = gI C 26 := by rw [eI, gI_sA, h26]
        have ji : ∀ k : Nat, k ≠ 26 → gI J k = gI C k := fun k q => by rw [eJ, gI_ne q, eI, gI_sA, eH, gI_sA, eG, gI_sA, eF, gI_sA, eE, gI_sA, eD, gI_sB]
        have ja : ∀ k : Nat, k ≠ 12 → k ≠ 13 → k ≠ 14 → k ≠ 15 → k ≠ 18 → gA J k = gA C k := fun k a1 a2 a3 a4 a5 => by rw [eJ, gA_sI, eI, gA_ne a5, eH, gA_ne a4, eG, gA_ne a3, eF, gA_ne a2, eE, gA_ne a1, eD, gA_sB]
        have jb : ∀ k : Nat, k ≠ 11 → gB J k = gB C k := fun k q => by rw [eJ, gB_sI, eI, gB_sA, eH, gB_sA, eG, gB_sA, eF, gB_sA, eE, gB_sA, eD, gB_sB, if_neg q]
        have j12 : gA J 12 = upd (gA C 12) n.toNatClampNeg p1 := by rw [eJ, gA_sI, eI, gA_ne (by decide), eH, gA_ne (by decide), eG, gA_ne (by decide), eF, gA_ne (by decide), eE, gA_eq, eD, gA_sB]
        have j14 : gA J 14 = upd (gA C 14) n.toNatClampNeg 0 := by rw [eJ, gA_sI, eI, gA_ne (by decide), eH, gA_ne (by decide), eG, gA_eq, eF, gA_ne (by decide), eE, gA_ne (by decide), eD, gA_sB]
        have j15 : gA J 15 = upd (gA C 15) n.toNatClampNeg 0 := by rw [eJ, gA_sI, eI, gA_ne (by decide), eH, gA_eq, eG, gA_ne (by decide), eF, gA_ne (by decide), eE, gA_ne (by decide), eD, gA_sB]
        have inc : (gI C 26 + (1 : Int32)).toInt = aR C + 1 := k_inc r59.1 (n := 59) r59.2 (by decide)
        have j26 : (gI J 26).toInt = aR C + 1 := by rw [eJ, gI_eq, i26]; exact inc
        have jR : aR J = aR C + 1 := j26
        have nJ : N7 J := by
          refine ⟨by rw [ji 30 (by decide)]; exact n1, by rw [ji 29 (by decide)]; exact n2, by rw [ja 16 (by decide) (by decide) (by decide) (by decide) (by decide)]; exact n3, by rw [j14]; exact AR_upd n4 IV_00, fun j => ?_, by rw [j15]; exact AR_upd n6 IV_00⟩
          rw [j12, j14, upd_at, upd_at]
          by_cases hj : j = n.toNatClampNeg
          · rw [if_pos hj, if_pos hj]
            exact fun _ => IV_00
          · rw [if_neg hj, if_neg hj]
            exact n5 j
        have mJ : M7 Zt B T J := ⟨nJ, by rw [ja 44 (by decide) (by decide) (by decide) (by decide) (by decide)]; exact m2, by rw [ji 47 (by decide)]; exact m3, by rw [ja 38 (by decide) (by decide) (by decide) (by decide) (by decide)]; exact m4, by rw [ji 2 (by decide)]; exact m5, by rw [ja 32 (by decide) (by decide) (by decide) (by decide) (by decide)]; exact m6⟩
        have lJ : LX J := by
          unfold LX aT aE aZ
          rw [ji 6 (by decide), ji 7 (by decide), ji 3 (by decide), ji 8 (by decide), ji 9 (by decide)]
          exact hl
        have cJ : CIa J := by
          unfold CIa aA
          rw [ji 27 (by decide), ja 22 (by decide) (by decide) (by decide) (by decide) (by decide)]
          exact hc
        have bJ : BZ J := by
          intro i hi hir hk
          rw [ji 30 (by decide), j12, upd_at] at hk
          rw [ji 30 (by decide), j14, upd_at]
          by_cases hj : ((60 : Int32) * gI C 30 + i).toNatClampNeg = n.toNatClampNeg
          · rw [if_pos hj]
          · rw [if_neg hj] at hk
            rw [if_neg hj]
            refine hb i hi ?_ hk
            rw [jR] at hir
            rcases Int.lt_or_le i.toInt (aR C) with w | w
            · exact w
            · have : i = gI C 26 := Int32.toInt_inj.mp (by show i.toInt = aR C; omega)
              exact absurd (by rw [this, en]) hj
        have pJ : PI Zt B T J := ⟨mJ, lJ, ⟨by have := r59.1; rw [j26]; show 0 ≤ (gI C 26).toInt + 1; omega, by have := r59.2; rw [j26]; show (gI C 26).toInt + 1 ≤ 60; omega⟩, cJ, bJ⟩
        have t8 : gI J 8 ≠ 0 := by rw [ji 8 (by decide), ht]; decide
        have tJ : aT J = aT C := by show (gI J 6).toInt = (gI C 6).toInt; rw [ji 6 (by decide)]
        refine Ok_B (k_next lJ t8) (fun U hU => Ok_s ⟨PI_MU pJ hU.2.1, ⟨fun k q => ?_, fun k q => ?_, ?_, ?_⟩, fun _ => ⟨gd, by have := hU.2.2.1; show aT C + 1 ≤ aT U; omega, hn, ?_⟩⟩)
        · exact (MU_i hU.2.1 (by omega)).trans (ji k (by omega))
        · exact (MU_A hU.2.1 k).trans (ja k (by omega) (by omega) (by omega) (by omega) (by omega))
        · exact (MU_B hU.2.1 20).trans (jb 20 (by decide))
        · exact (MU_B hU.2.1 23).trans (jb 23 (by decide))
        · show gA U 12 n.toNatClampNeg = p1
          rw [MU_A hU.2.1, j12, upd_at, if_pos rfl]
      · exact absurd gd hC.2
