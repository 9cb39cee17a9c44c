/-! a GATE's line -/
def PQ (Zt B T a : Int) (X : SS) : Prop := PI Zt B T X ∧ CId X ∧ (GD X → 2 * aA X ≤ aT X ∧ 10 * aD X ≤ aT X ∧ a ≤ aT X)
theorem PQ_MU {Zt B T a : Int} {X Y : SS} (h : PQ Zt B T a X) (f : MU X Y) : PQ Zt B T a Y := by
  refine ⟨PI_MU h.1 f, CId_MU h.2.1 f, fun q => ?_⟩
  obtain ⟨g, u⟩ := f.2.2.2 q
  obtain ⟨x1, x2, x3⟩ := h.2.2 g
  have e1 := aA_MU f
  have e2 := aD_MU f
  exact ⟨by omega, by omega, by omega⟩
theorem PQ_bad {Zt B T a : Int} {X Y : SS} (h : PQ Zt B T a X) (f : FF X Y) (g : ¬ GD Y) : PQ Zt B T a Y := PQ_MU h (MU_FF h.1.2.1 f g)
theorem PL_PQ {Zt B T a : Int} {X : SS} (h : PQ Zt B T a X) : PL Zt B T a X := ⟨h.1.1, fun q => ⟨h.1, h.2.1, (h.2.2 q).1, (h.2.2 q).2.1, (h.2.2 q).2.2⟩⟩
def EX (P Q : SS → Prop) (v : SS ⊕ SS) : Prop := match v with
  | .inl t => P t
  | .inr x => Q x
theorem k_X7_mostOf (g : Int32) : Ok (f_X7_mostOf g) (fun r => IV 1 6 r) := Ok_c (fun _ => Ok_s IV_lit) (fun _ => Ok_c (fun _ => Ok_s IV_lit) (fun _ => Ok_c (fun _ => Ok_s IV_lit) (fun _ => Ok_s IV_lit)))
theorem k_X7_leastOf (g : Int32) : Ok (f_X7_leastOf g) (fun _ => True) := Ok_c (fun _ => Ok_s trivial) (fun _ => Ok_c (fun _ => Ok_s trivial) (fun _ => Ok_c (fun _ => Ok_s trivial) (fun _ => Ok_s trivial)))
theorem Ok_and {α : Type} {x : Option α} {P Q : α → Prop} (h1 : Ok x P) (h2 : Ok x Q) : Ok x (fun a => P a ∧ Q a) := by
  obtain ⟨a, e, p⟩ := h1
  obtain ⟨b, e2, q⟩ := h2
  rw [e] at e2
  cases e2
  exact ⟨a, e, p, q⟩
theorem Ok_imp {α : Type} {x : Option α} {P Q : α → Prop} (h1 : Ok x P) (h2 : ∀ a, x = some a → Q a) : Ok x (fun a => P a ∧ Q a) := by
  obtain ⟨a, e, p⟩ := h1
  exact ⟨a, e, p, h2 a e⟩
/-- a good end of ask says that it stood at a NAME -/
theorem k_X7_ask_name (S : SS) (p1 : Int32) (U : SS) (h : f_X7_ask S p1 = some U) (g : GD U) : gI S 8 = 2 := by
  refine Classical.byContradiction (fun q => ?_)
  obtain ⟨A, hA, h⟩ := zB_spec h
  have hA2 := zN q hA
  obtain ⟨C, hC, hA3⟩ := zB_spec hA2
  obtain ⟨C', e, w⟩ := k_X7_wrong S
  rw [e] at hC
  cases hC
  cases hA3
  obtain ⟨r, hr, h⟩ := zB_spec h
  obtain ⟨r', e2, w2⟩ := k_X7_isGood A
  rw [e2] at hr
  cases hr
  have h2 := zY (w2.mpr w.2) h
  cases h2
  exact w.2 g
/-- the NAMES of a GATE -/
theorem k_X7_readGate_174 {Zt B T a : Int} {n g mo : Int32} (hn : IV 0 119 n) (hmo : f_X7_mostOf g = some mo) (hm6 : IV 1 6 mo) {O : SS} (hO : PQ Zt B T a O) (kO : gA O 12 n.toNatClampNeg = 2) (zO : gA O 14 n.toNatClampNeg = 0) (tO : GD O → gI O 8 = 5) : Ok (zI (b_X7_readGate_174 n g) zF ((1 : Int32), O)) (EX (fun t => M7 Zt B T t ∧ ¬ GD t) (fun X => PQ Zt B T a X)) := by
  refine Ok_F (fun v : Int32 × SS => zb v.1 ∧ PQ Zt B T a v.2 ∧ gA v.2 12 n.toNatClampNeg = 2 ∧ IV 0 7 (gA v.2 14 n.toNatClampNeg) ∧ (GD v.2 → (gA v.2 14 n.toNatClampNeg).toInt ≤ mo.toInt ∧ (¬ v.1 = 0 → gI v.2 8 = 5))) (fun v => if v.1 = 0 then 0 else (2001 - aT v.2).toNat + 1) (fun v hv => ?_) ⟨Or.inr rfl, hO, kO, by rw [zO]; exact IV_00, fun q => ⟨?_, fun _ => tO q⟩⟩ ?_
  · obtain ⟨m, X⟩ := v
    obtain ⟨hm, pX, kX, n7, gX⟩ : zb m ∧ PQ Zt B T a X ∧ gA X 12 n.toNatClampNeg = 2 ∧ IV 0 7 (gA X 14 n.toNatClampNeg) ∧ (GD X → (gA X 14 n.toNatClampNeg).toInt ≤ mo.toInt ∧ (¬ m = 0 → gI X 8 = 5)) := hv
    refine Ok_c (fun _ => Ok_s pX) (fun c => Ok_B (k_X7_isGood X) (fun r hr => Ok_c (fun _ => Ok_s pX) (fun c2 => ?_)))
    have g1 : GD X := Classical.byContradiction (fun q => c2 (hr.mpr q))
    obtain ⟨le1, t5⟩ := gX g1
    have t5 := t5 c
    have lX := pX.1.2.1
    refine Ok_B (k_next lX (by rw [t5]; decide)) (fun Y hY => ?_)
    have pY := PQ_MU pX hY.2.1
    have uY := hY.2.2.1
    have kY : gA Y 12 n.toNatClampNeg = 2 := by rw [MU_A hY.2.1]; exact kX
    have e14 : gA Y 14 = gA X 14 := MU_A hY.2.1 14
    have gY : GD Y := (GD_FX hY.1).mpr g1
    refine Ok_B (P := fun Z => (Z = Y ∧ (gI Y 8 = 2 → gA Y 14 n.toNatClampNeg ≠ mo)) ∨ (FF Y Z ∧ ¬ GD Z)) (Ok_c (fun _ => Ok_e hmo (Ok_c (fun _ => Ok_B (k_X7_wrong Y) (fun Z hZ => Ok_s (Or.inr hZ))) (fun c5 => Ok_s (Or.inl ⟨rfl, fun _ => c5⟩)))) (fun c4 => Ok_s (Or.inl ⟨rfl, fun q => absurd q c4⟩))) (fun Z hZ => ?_)
    refine Ok_B (k_X7_isGood Z) (fun r2 hr2 => Ok_c (fun c5 => Ok_s ?_) (fun c5 => ?_))
    · rcases hZ with ⟨rfl, _⟩ | hZ
      · exact absurd gY (hr2.mp c5)
      · exact ⟨(PQ_bad pY hZ.1 hZ.2).1.1, hZ.2⟩
    · have gZ : GD Z := Classical.byContradiction (fun q => c5 (hr2.mpr q))
      rcases hZ with ⟨rfl, hne⟩ | hZ
      · obtain ⟨y1, y2, y3⟩ := pY.2.2 gY
        have le2 : (gA Z 14 n.toNatClampNeg).toInt ≤ mo.toInt := by rw [e14]; exact le1
        have n6 : IV 0 6 (gA Z 14 n.toNatClampNeg) := ⟨by rw [e14]; exact n7.1, by have := hm6.2; omega⟩
        have irow : IV (-1) 1439 ((12 : Int32) * n + gA Z 14 n.toNatClampNeg) := IV_wk (IV_add (u := 0) (v := 1434) rfl (IV_mul (u := 0) (v := 1428) rfl (IV_lit (a := 12) (b := 12)) hn (by decide) (by decide) (by decide) (by decide) (by decide)) n6 (by decide) (by decide) (by decide) (by decide)) (by decide) (by decide)
        have tZ : GD Z := gY
        refine Ok_B (Ok_imp (Q := fun E => GD E → gI Z 8 = 2) (k_X7_ask pY.1 y1 irow) (k_X7_ask_name Z _)) (fun E hE => Ok_L (fun F eF => ?_))
        obtain ⟨⟨pE, sE, gE⟩, nm⟩ := hE
        have kE : gA E 12 n.toNatClampNeg = 2 := by rw [sE.2.1 12 (by decide)]; exact kY
        have e14E : gA E 14 = gA Z 14 := sE.2.1 14 (by decide)
        have inc : (gA E 14 n.toNatClampNeg + (1 : Int32)).toInt = (gA Z 14 n.toNatClampNeg).toInt + 1 := by
          rw [e14E]
          exact k_inc n6.1 (n := 6) n6.2 (by decide)
        have v7 : IV 0 7 (gA E 14 n.toNatClampNeg + (1 : Int32)) := ⟨by rw [inc]; have := n6.1; omega, by rw [inc]; have := n6.2; omega⟩
        have pF : PI Zt B T F := by rw [eF]; exact PI_14 pE (by rw [kE]; decide) v7
        have dF : CId F := by rw [eF]; exact CId_eq (CId_ST pY.2.1 sE) rfl rfl (gA_ne (by decide)) (gA_ne (by decide)) rfl rfl
        have kF : gA F 12 n.toNatClampNeg = 2 := by rw [eF, gA_ne (by decide)]; exact kE
        have f14 : gA F 14 n.toNatClampNeg = gA E 14 n.toNatClampNeg + (1 : Int32) := by rw [eF, gA_eq, upd_at, if_pos rfl]
        have tF : aT F = aT E := by rw [eF]; rfl
        have aF : aA F = aA E := by rw [eF]; rfl
        have dF' : aD F = aD Z := by
          rw [eF]
          show aD E = aD Z
          exact ST_D sE
        have gF : GD F ↔ GD E := by rw [eF]; exact Iff.rfl
        have qF : PQ Zt B T a F := by
          refine ⟨pF, dF, fun q => ?_⟩
          obtain ⟨_, u1, u2⟩ := gE (gF.mp q)
          have uY' : aT X + 1 ≤ aT Z := uY
          obtain ⟨x1, x2, x3⟩ := pX.2.2 g1
          have eaX := aA_MU hY.2.1
          exact ⟨by omega, by omega, by omega⟩
        have moF : GD F → (gA F 14 n.toNatClampNeg).toInt ≤ mo.toInt := fun q => by
          rw [f14, inc]
          have t2 := nm (gF.mp q)
          have ne := hne t2
          have ne2 : ¬ (gA Z 14 n.toNatClampNeg).toInt = mo.toInt := fun w => ne (Int32.toInt_inj.mp w)
          omega
        have upF : GD F → aT X + 1 ≤ aT F := fun q => by
          obtain ⟨_, u1, u2⟩ := gE (gF.mp q)
          have uY' : aT X + 1 ≤ aT Z := uY
          omega
        have muX : (if m = 0 then 0 else (2001 - aT X).toNat + 1) = (2001 - aT X).toNat + 1 := if_neg c
        have i7 : IV 0 7 (gA F 14 n.toNatClampNeg) := by rw [f14]; exact v7
        have off : OkI (fun v : Int32 × SS => zb v.1 ∧ PQ Zt B T a v.2 ∧ gA v.2 12 n.toNatClampNeg = 2 ∧ IV 0 7 (gA v.2 14 n.toNatClampNeg) ∧ (GD v.2 → (gA v.2 14 n.toNatClampNeg).toInt ≤ mo.toInt ∧ (¬ v.1 = 0 → gI v.2 8 = 5))) (fun v => if v.1 = 0 then 0 else (2001 - aT v.2).toNat + 1) (EX (fun t => M7 Zt B T t ∧ ¬ GD t) (fun X => PQ Zt B T a X)) (m, X) (Sum.inl ((0 : Int32), F)) := by
          refine OkI_l ⟨Or.inl rfl, qF, kF, i7, fun q => ⟨moF q, fun w => absurd rfl w⟩⟩ ?_
          show (if (0 : Int32) = 0 then 0 else (2001 - aT F).toNat + 1) < (if m = 0 then 0 else (2001 - aT X).toNat + 1)
          rw [muX, if_pos rfl]
          omega
        refine Ok_B (k_X7_isGood F) (fun r4 hr4 => Ok_c (fun _ => Ok_s off) (fun c4 => Ok_B (k_X7_is pF.2.1 _) (fun r5 hr5 => Ok_c (fun _ => Ok_s off) (fun c6 => Ok_s (OkI_l ⟨Or.inr rfl, qF, kF, i7, fun q => ⟨moF q, fun _ => hr5.2 c6⟩⟩ ?_)))))
        have g4 : GD F := Classical.byContradiction (fun q => c4 (hr4.mpr q))
        have u := upF g4
        show (if (1 : Int32) = 0 then 0 else (2001 - aT F).toNat + 1) < (if m = 0 then 0 else (2001 - aT X).toNat + 1)
        rw [muX, if_neg ne10]
        obtain ⟨l1, l2, l3, l4, _⟩ := pF.2.1
        omega
      · exact absurd gZ hZ.2
  · show (gA O 14 n.toNatClampNeg).toInt ≤ mo.toInt
    rw [zO]
    have t0 : (0 : Int32).toInt = 0 := by decide
    have := hm6.1
    omega
  · show (if (1 : Int32) = 0 then 0 else (2001 - aT O).toNat + 1) < 10000
    rw [if_neg ne10]
    have := hO.1.2.1.1
    omega
/-- behind the NAMES -/
theorem k_gate_tail {Zt B T a : Int} {n g : Int32} {X : SS} (hX : PQ Zt B T a X) : Ok (zB (f_X7_isGood X) (fun (r89 : Int32) =>
  zB (if r89 = (0 : Int32) then some X
  else zB (f_X7_is X (41 : Int32)) (fun (r145 : Int32) =>
  if r145 = (0 : Int32) then some X
  else zB (f_X7_leastOf g) (fun (r150 : Int32) =>
  if r150 ≤ (gA X 14 n.toNatClampNeg) then some X
  else zB (f_X7_wrong X) (fun (s7_155 : SS) =>
  some s7_155)))) (fun (s7_99 : SS) =>
  zB (f_X7_isGood s7_99) (fun (r100 : Int32) =>
  zB (if r100 = (0 : Int32) then some s7_99
  else zB (f_X7_must s7_99 (41 : Int32)) (fun (s7_140 : SS) =>
  some s7_140)) (fun (s7_110 : SS) =>
  zB (f_X7_isGood s7_110) (fun (r111 : Int32) =>
  zB (if r111 = (0 : Int32) then some s7_110
  else if (gI s7_110 8) = (4 : Int32) then zL (sA s7_110 15 (upd (gA s7_110 15) n.toNatClampNeg (gI s7_110 9))) (fun s7_134 =>
  zB (f_X7_next s7_134) (fun (s7_135 : SS) =>
  some s7_135))
  else some s7_110) (fun (s7_121 : SS) =>
  zB (f_X7_isGood s7_121) (fun (r122 : Int32) =>
  if r122 = (0 : Int32) then some s7_121
  else zB (f_X7_must s7_121 (59 : Int32)) (fun (s7_127 : SS) =>
  some s7_127))))))))) (fun U => PL Zt B T a U) := by
  refine Ok_B (k_X7_isGood X) (fun r hr => Ok_B (P := fun Y => PQ Zt B T a Y) ?_ (fun Y hY => ?_))
  · refine Ok_c (fun _ => Ok_s hX) (fun _ => Ok_B (k_X7_is hX.1.2.1 _) (fun _ _ => Ok_c (fun _ => Ok_s hX) (fun _ => Ok_B (k_X7_leastOf g) (fun _ _ => Ok_c (fun _ => Ok_s hX) (fun _ => ?_)))))
    exact Ok_B (k_X7_wrong X) (fun Y hY => Ok_s (PQ_bad hX hY.1 hY.2))
  · refine Ok_B (k_X7_isGood Y) (fun r hr => Ok_B (P := fun Z => PQ Zt B T a Z) (Ok_c (fun _ => Ok_s hY) (fun _ => Ok_B (k_X7_must hY.1.2.1 _) (fun Z hZ => Ok_s (PQ_MU hY hZ)))) (fun Z hZ => ?_))
    refine Ok_B (k_X7_isGood Z) (fun r hr => Ok_B (P := fun W => PQ Zt B T a W) (Ok_c (fun _ => Ok_s hZ) (fun _ => Ok_c (fun c4 => Ok_L (fun V eV => ?_)) (fun _ => Ok_s hZ))) (fun W hW => ?_))
    · have lZ := hZ.1.2.1
      have pV : PI Zt B T V := by rw [eV]; exact PI_15 hZ.1 (lZ.2.2.2.2.2.2.2 c4)
      have dV : CId V := by rw [eV]; exact CId_eq hZ.2.1 rfl rfl (gA_ne (by decide)) (gA_ne (by decide)) rfl rfl
      have qV : PQ Zt B T a V := ⟨pV, dV, fun q => by
        have q2 : GD Z := by rw [eV] at q; exact q
        have e1 : aA V = aA Z := by rw [eV]; rfl
        have e2 : aD V = aD Z := by rw [eV]; rfl
        have e3 : aT V = aT Z := by rw [eV]; rfl
        rw [e1, e2, e3]
        exact hZ.2.2 q2⟩
      have t8 : gI V 8 ≠ 0 := by rw [eV, gI_sA, c4]; decide
      exact Ok_B (k_next pV.2.1 t8) (fun W hW => Ok_s (PQ_MU qV hW.2.1))
    · exact Ok_B (k_X7_isGood W) (fun r hr => Ok_c (fun _ => Ok_s (PL_PQ hW)) (fun _ => Ok_B (k_X7_must hW.1.2.1 _) (fun U hU => Ok_s (PL_PQ (PQ_MU hW hU)))))
