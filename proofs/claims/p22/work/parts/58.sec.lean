/-! LEVELS, and the reference's read -/
/-- the state at LEVELS: rows in their bounds, the NODES of the text counted -/
def LV (Zt B T : Int) (S X : SS) : Prop := M7 Zt B T X ∧ ∀ k : Nat, k ≠ 4 → k ≠ 5 → gI X k = gI S k
theorem LV_sA {Zt B T : Int} {S X : SS} {q : Nat} {f : Nat → Int32} (hq : (q ≠ 12 ∧ q ≠ 14 ∧ q ≠ 15 ∧ q ≠ 16) ∧ q ≠ 44 ∧ q ≠ 38 ∧ q ≠ 32) (h : LV Zt B T S X) : LV Zt B T S (sA X q f) := ⟨M7_sA hq h.1, h.2⟩
theorem M7_32 {Zt B T : Int} {S : SS} {f : Nat → Int32} (h : M7 Zt B T S) (hf : AR 0 1 f) : M7 Zt B T (sA S 32 f) := by
  obtain ⟨h1, h2, h3, h4, h5, h6⟩ := h
  refine ⟨N7_sA (by decide) h1, ?_, h3, ?_, h5, ?_⟩
  · rw [gA_ne (by decide)]; exact h2
  · rw [gA_ne (by decide)]; exact h4
  · rw [gA_eq]; exact hf
theorem LV_26 {Zt B T : Int} {S X : SS} (h : LV Zt B T S X) (hr : IV 0 60 (gI S 26)) : IV 0 60 (gI X 26) := by
  rw [h.2 26 (by decide) (by decide)]
  exact hr
theorem nar1 : vp_nar .boolean (1 : Int32) = 1 := by decide
theorem nar0 : vp_nar .boolean (0 : Int32) = 0 := by decide
theorem k_X7_lead {Zt B T : Int} {S X : SS} (h : LV Zt B T S X) {p1 : Int32} (hp : IV 0 59 p1) : Ok (f_X7_lead X p1) (fun U => LV Zt B T S U) := by
  have hix := k_ix h.1.1.1 hp
  refine Ok_L (fun n en => ?_)
  have hn : IV 0 119 n := by rw [en]; exact hix
  refine Ok_F (fun v : Int32 × SS => IV 0 12 v.1 ∧ LV Zt B T S v.2) (fun v => (12 - v.1.toInt).toNat) (fun v hv => ?_) ⟨IV_00, h⟩ (mz 12)
  obtain ⟨v, Y⟩ := v
  obtain ⟨hv, hY⟩ : IV 0 12 v ∧ LV Zt B T S Y := hv
  refine Ok_B (k_X7_hangs hY.1.1 hn) (fun r hr => Ok_c (fun _ => Ok_s hY) (fun c => ?_))
  have ⟨g1, g2, g3⟩ := k_lp (by decide) hv hr c
  have i12 : IV 0 1439 ((12 : Int32) * n + v) := IV_add rfl (IV_mul (u := 0) (v := 1428) rfl (IV_lit (a := 12) (b := 12)) hn (by decide) (by decide) (by decide) (by decide) (by decide)) g1 (by decide) (by decide) (by decide) (by decide)
  refine Ok_G (IV_in i12 (by decide) (by decide)) (Ok_G (k_in60 (hY.1.1.2.2.1 _)) (Ok_l (Ok_l (Ok_s (OkI_l ⟨g2, ⟨M7_32 hY.1 ?_, hY.2⟩⟩ g3)))))
  rw [nar1]
  exact AR_upd hY.1.2.2.2.2.2 IV_01
theorem k_X7_hangsOnItself {Zt B T : Int} {S X : SS} (h : LV Zt B T S X) (hr : IV 0 60 (gI S 26)) {p1 : Int32} (hp : IV 0 59 p1) : Ok (f_X7_hangsOnItself X p1) (fun w => LV Zt B T S w.2) := by
  refine Ok_B (P := fun Y => LV Zt B T S Y) ?_ (fun Y hY => Ok_B (k_X7_lead hY hp) (fun W hW => ?_))
  · refine Ok_F (fun v : Int32 × SS => IV 0 60 v.1 ∧ LV Zt B T S v.2) (fun v => (60 - v.1.toInt).toNat) (fun v hv => ?_) ⟨IV_00, h⟩ (mz 60)
    obtain ⟨v, Y⟩ := v
    obtain ⟨hv, hY⟩ : IV 0 60 v ∧ LV Zt B T S Y := hv
    refine Ok_c (fun _ => Ok_s hY) (fun c => ?_)
    have ⟨g1, g2, g3⟩ := k_lp (by decide) hv (LV_26 hY hr) c
    refine Ok_G (k_in60 g1) (Ok_l (Ok_l (Ok_s (OkI_l ⟨g2, ⟨M7_32 hY.1 ?_, hY.2⟩⟩ g3))))
    rw [nar0]
    exact AR_upd hY.1.2.2.2.2.2 IV_00
  · refine Ok_F (fun v : Int32 × SS => IV 0 60 v.1 ∧ LV Zt B T S v.2) (fun v => (60 - v.1.toInt).toNat) (fun v hv => ?_) ⟨IV_00, hW⟩ (mz 60)
    obtain ⟨v, Y⟩ := v
    obtain ⟨hv, hY⟩ : IV 0 60 v ∧ LV Zt B T S Y := hv
    have zbl : zb (gA Y 32 p1.toNatClampNeg) := IV_bool (hY.1.2.2.2.2.2 _)
    refine Ok_c (fun _ => Ok_G (k_in60 hp) (Ok_G zbl (Ok_s hY))) (fun c => ?_)
    have ⟨g1, g2, g3⟩ := k_lp (by decide) hv (LV_26 hY hr) c
    refine Ok_B (P := fun Q => LV Zt B T S Q) ?_ (fun Q hQ => Ok_l (Ok_s (OkI_l ⟨g2, hQ⟩ g3)))
    refine Ok_F (fun v : Int32 × SS => IV 0 60 v.1 ∧ LV Zt B T S v.2) (fun v => (60 - v.1.toInt).toNat) (fun u hu => ?_) ⟨IV_00, hY⟩ (mz 60)
    obtain ⟨u, Q⟩ := u
    obtain ⟨hu, hQ⟩ : IV 0 60 u ∧ LV Zt B T S Q := hu
    refine Ok_c (fun _ => Ok_s hQ) (fun c => ?_)
    have ⟨k1, k2, k3⟩ := k_lp (by decide) hu (LV_26 hQ hr) c
    refine Ok_G (k_in60 k1) (Ok_c (fun _ => Ok_l (Ok_s (OkI_l ⟨k2, hQ⟩ k3))) (fun _ => ?_))
    exact Ok_B (k_X7_lead hQ k1) (fun R hR => Ok_l (Ok_s (OkI_l ⟨k2, hR⟩ k3)))
theorem k_X7_levels {Zt B T : Int} {S : SS} (h : M7 Zt B T S) (hr : IV 0 60 (gI S 26)) : Ok (f_X7_levels S) (fun U => LV Zt B T S U) := by
  have h0 : LV Zt B T S S := ⟨h, fun _ _ _ => rfl⟩
  refine Ok_B (P := fun X => LV Zt B T S X) ?_ (fun A hA => Ok_B (P := fun X => LV Zt B T S X) ?_ (fun C hC => ?_))
  · refine Ok_F (fun v : Int32 × SS => IV 0 60 v.1 ∧ LV Zt B T S v.2) (fun v => (60 - v.1.toInt).toNat) (fun v hv => ?_) ⟨IV_00, h0⟩ (mz 60)
    obtain ⟨v, Y⟩ := v
    obtain ⟨hv, hY⟩ : IV 0 60 v ∧ LV Zt B T S Y := hv
    refine Ok_c (fun _ => Ok_s hY) (fun c => ?_)
    have ⟨g1, g2, g3⟩ := k_lp (by decide) hv (LV_26 hY hr) c
    exact Ok_G (k_in120 (k_ix hY.1.1.1 g1)) (Ok_l (Ok_l (Ok_s (OkI_l ⟨g2, LV_sA (by decide) hY⟩ g3))))
  · refine Ok_F (fun v : Int32 × SS => IV 0 61 v.1 ∧ LV Zt B T S v.2) (fun v => (61 - v.1.toInt).toNat) (fun v hv => ?_) ⟨IV_00, hA⟩ (mz 61)
    obtain ⟨v, Y⟩ := v
    obtain ⟨hv, hY⟩ : IV 0 61 v ∧ LV Zt B T S Y := hv
    refine Ok_c (fun _ => Ok_s hY) (fun c => ?_)
    have g1 : IV 0 60 v := IV_nlt_r c (LV_26 hY hr) hv (by decide) (by decide)
    have g2 : IV 0 61 (v + 1) := IV_add rfl g1 (IV_lit (a := 1) (b := 1)) (by decide) (by decide) (by decide) (by decide)
    have g3 : (61 - (v + 1).toInt).toNat < (61 - v.toInt).toNat := by
      have e : (v + 1).toInt = v.toInt + 1 := IV_step rfl g1 (by decide) (by decide) (by decide)
      have := g1.2
      rw [e]
      omega
    refine Ok_B (P := fun X => LV Zt B T S X) ?_ (fun Q hQ => Ok_l (Ok_s (OkI_l ⟨g2, hQ⟩ g3)))
    refine Ok_F (fun v : Int32 × SS => IV 0 60 v.1 ∧ LV Zt B T S v.2) (fun v => (60 - v.1.toInt).toNat) (fun u hu => ?_) ⟨IV_00, hY⟩ (mz 60)
    obtain ⟨u, Q⟩ := u
    obtain ⟨hu, hQ⟩ : IV 0 60 u ∧ LV Zt B T S Q := hu
    refine Ok_c (fun _ => Ok_s hQ) (fun c => Ok_L (fun n en => ?_))
    have ⟨k1, k2, k3⟩ := k_lp (by decide) hu (LV_26 hQ hr) c
    have hn : IV 0 119 n := by rw [en]; exact k_ix hQ.1.1.1 k1
    refine Ok_G (k_in120 hn) (Ok_c (fun _ => Ok_B (P := fun _ => True) ?_ (fun m _ => Ok_l (Ok_l (Ok_s (OkI_l ⟨k2, LV_sA (by decide) hQ⟩ k3))))) (fun _ => Ok_l (Ok_s (OkI_l ⟨k2, hQ⟩ k3))))
    refine Ok_F (fun v : Int32 × Int32 => IV 0 12 v.2) (fun v => (12 - v.2.toInt).toNat) (fun w hw => ?_) IV_00 (mz 12)
    obtain ⟨m, w⟩ := w
    refine Ok_B (k_X7_hangs hQ.1.1 hn) (fun r89 hr89 => Ok_c (fun _ => Ok_s trivial) (fun c => Ok_c (fun _ => Ok_s trivial) (fun _ => ?_)))
    have ⟨j1, j2, j3⟩ := k_lp (by decide) hw hr89 c
    have i12 : IV 0 1439 ((12 : Int32) * n + w) := IV_add rfl (IV_mul (u := 0) (v := 1428) rfl (IV_lit (a := 12) (b := 12)) hn (by decide) (by decide) (by decide) (by decide) (by decide)) j1 (by decide) (by decide) (by decide) (by decide)
    refine Ok_G (IV_in i12 (by decide) (by decide)) (Ok_G (k_in120 (k_ix hQ.1.1.1 (hQ.1.1.2.2.1 _))) (Ok_l ?_))
    exact Ok_c (fun _ => Ok_c (fun _ => Ok_l (Ok_s (OkI_l j2 j3))) (fun _ => Ok_l (Ok_l (Ok_s (OkI_l j2 j3))))) (fun _ => Ok_l (Ok_s (OkI_l j2 j3)))
  · refine Ok_F (fun v : Int32 × SS => IV 0 60 v.1 ∧ LV Zt B T S v.2) (fun v => (60 - v.1.toInt).toNat) (fun v hv => ?_) ⟨IV_00, hC⟩ (mz 60)
    obtain ⟨v, Y⟩ := v
    obtain ⟨hv, hY⟩ : IV 0 60 v ∧ LV Zt B T S Y := hv
    refine Ok_c (fun _ => Ok_s hY) (fun c => ?_)
    have ⟨g1, g2, g3⟩ := k_lp (by decide) hv (LV_26 hY hr) c
    refine Ok_B (k_X7_isGood Y) (fun _ _ => Ok_c (fun _ => Ok_s hY) (fun _ => Ok_G (k_in120 (k_ix hY.1.1.1 g1)) (Ok_c (fun _ => Ok_l (Ok_s (OkI_l ⟨g2, hY⟩ g3))) (fun _ => ?_))))
    refine Ok_B (k_X7_hangsOnItself hY hr g1) (fun w hw => ?_)
    obtain ⟨r, Q⟩ := w
    have hQ : LV Zt B T S Q := hw
    refine Ok_c (fun _ => Ok_l (Ok_s (OkI_l ⟨g2, hQ⟩ g3))) (fun _ => Ok_G (k_in60 g1) (Ok_B (k_X7_fails Q (by decide) _) (fun R hR => Ok_l (Ok_s (OkI_l ⟨g2, ⟨M7_FF hQ.1 hR.1, fun k a b => (hR.1.2 k a b).trans (hQ.2 k a b)⟩⟩ g3)))))
theorem M7_Z {Zt Zt' B T : Int} {S : SS} (h : M7 Zt B T S) (hz : Zt ≤ Zt') : M7 Zt' B T S := by
  obtain ⟨h1, h2, h3, h4, h5, h6⟩ := h
  exact ⟨h1, h2, h3, h4, IV_wk h5 (Int.le_refl _) hz, h6⟩
theorem M7_30 {Zt B T : Int} {S : SS} {v : Int32} (h : M7 Zt B T S) (hv : IV 0 1 v) : M7 Zt B T (sI S 30 v) := by
  obtain ⟨⟨n1, n2, n3⟩, h2, h3, h4, h5, h6⟩ := h
  refine ⟨⟨?_, ?_, n3⟩, h2, ?_, h4, ?_, h6⟩
  · rw [gI_eq]; exact hv
  · rw [gI_ne (by decide)]; exact n2
  · rw [gI_ne (by decide)]; exact h3
  · rw [gI_ne (by decide)]; exact h5
theorem M7_29 {Zt B T : Int} {S : SS} {v : Int32} (h : M7 Zt B T S) (hv : IV 0 60 v) : M7 Zt B T (sI S 29 v) := by
  obtain ⟨⟨n1, n2, n3⟩, h2, h3, h4, h5, h6⟩ := h
  refine ⟨⟨?_, ?_, n3⟩, h2, ?_, h4, ?_, h6⟩
  · rw [gI_ne (by decide)]; exact n1
  · rw [gI_eq]; exact hv
  · rw [gI_ne (by decide)]; exact h3
  · rw [gI_ne (by decide)]; exact h5
theorem flip {b : Int32} (h : IV 0 1 b) : IV 0 1 ((1 : Int32) - b) := IV_sub rfl (IV_lit (a := 1) (b := 1)) h (by decide) (by decide) (by decide) (by decide)
theorem k_X7_read {B T : Int} {S : SS} (h : M7 2000 B T S) : Ok (f_X7_read S) (fun w => M7 2000 B T w.2 ∧ gI w.2 2 = 0) := by
  refine Ok_L (fun A eA => Ok_L (fun C eC => Ok_L (fun D eD => ?_)))
  have mA : M7 2000 B T A := by rw [eA]; exact M7_sI (by decide) h
  have mC : M7 2000 B T C := by rw [eC]; exact M7_sI (by decide) mA
  have mD : M7 2000 B T D := by rw [eD]; exact M7_sI (by decide) mC
  have d3 : gI D 3 = gI D 2 := by rw [eD, gI_eq, gI_ne (by decide)]
  have d4 : gI D 4 = 0 := by rw [eD, gI_ne (by decide), eC, gI_ne (by decide), eA, gI_eq]
  have i3 : IV 0 2000 (gI D 3) := by rw [d3]; exact mD.2.2.2.2.1
  refine Ok_B (P := fun X => M7 2000 B T X ∧ gI X 3 = gI D 3 ∧ gI X 4 = 0) ?_ (fun E hE => ?_)
  · refine Ok_F (fun v : Int32 × SS => IV 0 2000 v.1 ∧ M7 2000 B T v.2 ∧ gI v.2 3 = gI D 3 ∧ gI v.2 4 = 0) (fun v => (2000 - v.1.toInt).toNat) (fun v hv => ?_) ⟨IV_00, mD, rfl, d4⟩ (mz 2000)
    obtain ⟨v, X⟩ := v
    obtain ⟨hv, mX, x3, x4⟩ : IV 0 2000 v ∧ M7 2000 B T X ∧ gI X 3 = gI D 3 ∧ gI X 4 = 0 := hv
    refine Ok_c (fun _ => Ok_s ⟨mX, x3, x4⟩) (fun c => ?_)
    have ⟨g1, g2, g3⟩ := k_lp (by decide) hv (by rw [x3]; exact i3) c
    exact Ok_G (IV_in g1 (by decide) (by decide)) (Ok_G (IV_in g1 (by decide) (by decide)) (Ok_l (Ok_l (Ok_s (OkI_l ⟨g2, M7_sA (by decide) mX, x3, x4⟩ g3)))))
  · obtain ⟨mE, e3, e4⟩ := hE
    refine Ok_L (fun F eF => Ok_L (fun G eG => Ok_L (fun H eH => Ok_L (fun I eI => Ok_L (fun J eJ => Ok_L (fun K eK => ?_))))))
    have mF : M7 0 B T F := by rw [eF]; exact M7_2 mE IV_00
    have mG : M7 0 B T G := by rw [eG]; exact M7_sI (by decide) mF
    have mH : M7 0 B T H := by rw [eH]; exact M7_30 mG (flip mG.1.1)
    have mI : M7 0 B T I := by rw [eI]; exact M7_sI (by decide) mH
    have mJ : M7 0 B T J := by rw [eJ]; exact M7_sI (by decide) mI
    have mK : M7 0 B T K := by rw [eK]; exact M7_sI (by decide) mJ
    have k3 : gI K 3 = gI D 3 := by rw [eK, gI_ne (by decide), eJ, gI_ne (by decide), eI, gI_ne (by decide), eH, gI_ne (by decide), eG, gI_ne (by decide), eF, gI_ne (by decide)]; exact e3
    have k4 : gI K 4 = 0 := by rw [eK, gI_ne (by decide), eJ, gI_ne (by decide), eI, gI_ne (by decide), eH, gI_ne (by decide), eG, gI_ne (by decide), eF, gI_ne (by decide)]; exact e4
    have k7 : gI K 7 = 0 := by rw [eK, gI_ne (by decide), eJ, gI_ne (by decide), eI, gI_ne (by decide), eH, gI_ne (by decide), eG, gI_eq]
    have k26 : gI K 26 = 0 := by rw [eK, gI_ne (by decide), eJ, gI_ne (by decide), eI, gI_eq]
    have k27 : gI K 27 = 0 := by rw [eK, gI_ne (by decide), eJ, gI_eq]
    have k28 : gI K 28 = 0 := by rw [eK, gI_eq]
    have t0 : (0 : Int32).toInt = 0 := by decide
    have zK : aZ K = (gI D 3).toInt := by show (gI K 3).toInt = _; rw [k3]
    have zE : aE K = 0 := by show (gI K 7).toInt = _; rw [k7, t0]
    have zA : aA K = 0 := by show (gI K 27).toInt = _; rw [k27, t0]
    have zD : aD K = 0 := by show (gI K 28).toInt = _; rw [k28, t0]
    have zR : aR K = 0 := by show (gI K 26).toInt = _; rw [k26, t0]
    refine Ok_B (k_X7_next (S := K) (by omega) (by have := i3.1; omega) (by have := i3.2; omega)) (fun L hL => ?_)
    obtain ⟨fL, lL, uL⟩ := hL
    have mL := M7_FX mK fL
    have aL : aA L = 0 := (aA_FX fL).trans zA
    have dL : aD L = 0 := (aD_FX fL).trans zD
    have rL : aR L = 0 := (ST_R (ST_FX fL)).trans zR
    have gL' : GD L := (GD_FX fL).mpr k4
    have pL : PQ 0 B T 0 L := by
      refine ⟨⟨mL, lL, ?_, ⟨by omega, fun k hk => ?_⟩, fun i hi hir _ => ?_⟩, ⟨by omega, fun k hk => ?_, fun nm => ?_⟩, fun _ => ⟨?_, ?_, ?_⟩⟩
      · rw [FX_i fL (by decide), k26]; exact IV_00
      · exact absurd hk (by omega)
      · have := hi.1
        exact absurd hir (by omega)
      · exact absurd hk (by omega)
      · rw [dL]
        exact Nat.zero_le _
      · have := lL.1
        omega
      · have := lL.1
        omega
      · exact lL.1
    refine Ok_B (P := fun X => M7 0 B T X ∧ (GD X → PQ 0 B T 0 X)) ?_ (fun M hM => ?_)
    · refine Ok_F (fun X : SS => M7 0 B T X ∧ (GD X → PQ 0 B T 0 X)) (fun X => if gI X 4 = 0 then (2001 - aT X).toNat + 1 else 0) (fun X hX => ?_) ⟨mL, fun _ => pL⟩ ?_
      · refine Ok_B (k_X7_isGood X) (fun r hr => Ok_c (fun _ => Ok_s hX) (fun c => Ok_c (fun _ => Ok_s hX) (fun ct => ?_)))
        have gX : GD X := Classical.byContradiction (fun q => c (hr.mpr q))
        have pX := hX.2 gX
        refine Ok_B (k_X7_readLine pX gX ct) (fun U hU => Ok_s (OkI_l ⟨hU.1, fun q => ?_⟩ ?_))
        · obtain ⟨u1, u2, u3, u4, u5⟩ := hU.2 q
          exact ⟨u1, u2, fun _ => ⟨u3, u4, u1.2.1.1⟩⟩
        · show (if gI U 4 = 0 then (2001 - aT U).toNat + 1 else 0) < (if gI X 4 = 0 then (2001 - aT X).toNat + 1 else 0)
          have gX' : gI X 4 = 0 := gX
          rw [if_pos gX']
          by_cases hq : gI U 4 = 0
          · rw [if_pos hq]
            obtain ⟨u1, u2, u3, u4, u5⟩ := hU.2 hq
            obtain ⟨l1, l2, l3, l4, _⟩ := u1.2.1
            omega
          · rw [if_neg hq]
            omega
      · show (if gI L 4 = 0 then (2001 - aT L).toNat + 1 else 0) < 10000
        rw [if_pos (show gI L 4 = 0 from gL')]
        have := lL.1
        omega
    · obtain ⟨mM, gM⟩ := hM
      refine Ok_B (k_X7_isGood M) (fun r hr => Ok_B (P := fun X => M7 0 B T X ∧ (GD X → IV 0 60 (gI X 26))) (Ok_c (fun c => Ok_s ⟨mM, fun q => absurd q (hr.mp c)⟩) (fun c => ?_)) (fun N hN => ?_))
      · have g1 : GD M := Classical.byContradiction (fun q => c (hr.mpr q))
        obtain ⟨p1, p2, p3⟩ := gM g1
        obtain ⟨q1, q2, q3⟩ := p3 g1
        obtain ⟨l1, l2, l3, l4, _⟩ := p1.2.1
        refine Ok_B (k_X7_resolve p1 p2 (by omega) (by omega)) (fun U hU => Ok_s ⟨hU.1, fun _ => ?_⟩)
        rw [hU.2 26 (by decide) (by decide)]
        exact p1.2.2.1
      · obtain ⟨mN, gN⟩ := hN
        refine Ok_B (k_X7_isGood N) (fun r hr => Ok_B (P := fun X => M7 0 B T X ∧ (GD X → IV 0 60 (gI X 26))) (Ok_c (fun c => Ok_s ⟨mN, gN⟩) (fun c => ?_)) (fun O hO => ?_))
        · have g1 : GD N := Classical.byContradiction (fun q => c (hr.mpr q))
          refine Ok_B (k_X7_levels mN (gN g1)) (fun U hU => Ok_s ⟨hU.1, fun _ => LV_26 hU (gN g1)⟩)
        · obtain ⟨mO, gO⟩ := hO
          have z2 : ∀ X : SS, M7 0 B T X → gI X 2 = 0 := fun X hX => Int32.toInt_inj.mp (by rw [t0]; have a1 := hX.2.2.2.2.1.1; have a2 := hX.2.2.2.2.1.2; omega)
          refine Ok_B (k_X7_isGood O) (fun r hr => Ok_c (fun _ => Ok_l (Ok_s ?_)) (fun c => ?_))
          · have m1 := M7_30 mO (flip mO.1.1)
            exact ⟨M7_Z m1 (by decide), z2 _ m1⟩
          · have g1 : GD O := Classical.byContradiction (fun q => c (hr.mpr q))
            refine Ok_L (fun P eP => Ok_L (fun Q eQ => Ok_L (fun R eR => ?_)))
            have mP : M7 0 B T P := by rw [eP]; exact M7_29 mO (gO g1)
            have mQ : M7 0 B T Q := by rw [eQ]; exact M7_sI (by decide) mP
            have mR : M7 0 B T R := by rw [eR]; exact M7_sI (by decide) mQ
            refine Ok_B (P := fun X => M7 0 B T X) ?_ (fun V hV => Ok_B (k_X7_settle hV.1) (fun W hW => Ok_s ?_))
            · refine Ok_F (fun v : Int32 × SS => IV 0 60 v.1 ∧ M7 0 B T v.2) (fun v => (60 - v.1.toInt).toNat) (fun v hv => ?_) ⟨IV_00, mR⟩ (mz 60)
              obtain ⟨v, X⟩ := v
              obtain ⟨hv, mX⟩ : IV 0 60 v ∧ M7 0 B T X := hv
              refine Ok_c (fun _ => Ok_s mX) (fun c => ?_)
              have ⟨j1, j2, j3⟩ := k_lp (by decide) hv mX.1.2.1 c
              refine Ok_B (k_X7_kind mX.1 j1) (fun _ _ => Ok_B (P := fun _ => True) (Ok_c (fun _ => Ok_s trivial) (fun _ => Ok_s trivial)) (fun w _ => Ok_L (fun Y eY => ?_)))
              have mY : M7 0 B T Y := by rw [eY]; exact M7_sI (by decide) mX
              exact Ok_G (k_in60 j1) (Ok_l (Ok_l (Ok_s (OkI_l ⟨j2, M7_sA (by decide) mY⟩ j3))))
            · have mW := M7_At (by decide) hV hW
              exact ⟨M7_Z mW (by decide), z2 _ mW⟩
