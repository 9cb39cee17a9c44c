/-! the class's CIRCUIT: what keeps it from any throw -/
theorem IV_lit {a b : Int} {x : Int32} (h1 : a ≤ x.toInt := by decide) (h2 : x.toInt ≤ b := by decide) : IV a b x := ⟨h1, h2⟩
theorem IV_00 {b : Int} (h : (0 : Int) ≤ b := by decide) : IV 0 b (0 : Int32) := ⟨by decide, (show (0 : Int32).toInt = 0 by decide) ▸ h⟩
theorem IV_01 {b : Int} (h : (1 : Int) ≤ b := by decide) : IV 0 b (1 : Int32) := ⟨by decide, (show (1 : Int32).toInt = 1 by decide) ▸ h⟩
theorem mz (N : Int) (h : (N - (0 : Int32).toInt).toNat < 10000 := by decide) : (N - (0 : Int32).toInt).toNat < 10000 := h
theorem mz1 (N : Int) (h : (N - (1 : Int32).toInt).toNat < 10000 := by decide) : (N - (1 : Int32).toInt).toNat < 10000 := h
theorem lp_up {v n : Int32} {N : Int} (hN : N ≤ 100000) (hv : IV 0 N v) (hn : n.toInt ≤ N) (c : ¬ n ≤ v) : IV 0 (N - 1) v ∧ IV 0 N (v + 1) ∧ (N - (v + 1).toInt).toNat < (N - v.toInt).toNat ∧ v.toInt < n.toInt ∧ (v + 1).toInt = v.toInt + 1 := by
  obtain ⟨h1, h2⟩ := hv
  rw [ti_le] at c
  have t1 : (1 : Int32).toInt = 1 := by decide
  have e : (v + 1).toInt = v.toInt + 1 := by rw [ti_add (by rw [t1]; omega) (by rw [t1]; omega), t1]
  refine ⟨⟨h1, by omega⟩, ⟨by rw [e]; omega, by rw [e]; omega⟩, by rw [e]; omega, by omega, e⟩
theorem Ok_z {α : Type} {x : Option α} {Q : α → Prop} (h : Ok x Q) : Ok x (fun _ => True) := Ok_w h (fun _ _ => trivial)
def I0 (S : SS) : Prop := IV 0 60 (gI S 0) ∧ AR 0 59 (gA S 7) ∧ AR 0 12 (gA S 8) ∧ AR 0 59 (gA S 12)
theorem k_X0_clear {S0 : SS} (h : I0 S0) : Ok (f_X0_clear S0) I0 := by
  refine Ok_l (Ok_l (Ok_s ⟨?_, h.2⟩))
  exact IV_00
theorem k_X0_has {S0 : SS} (h : I0 S0) (p1 : Int32) : Ok (f_X0_has S0 p1) (fun r => zb r ∧ (r ≠ 0 → IV 0 59 p1 ∧ p1.toInt < (gI S0 0).toInt)) := by
  have ⟨h1, h2⟩ := h.1
  have t0 : (0 : Int32).toInt = 0 := by decide
  refine Ok_c (fun c => Ok_s ⟨Or.inl rfl, fun q => absurd rfl q⟩) (fun c => ?_)
  refine Ok_c (fun c2 => Ok_s ⟨Or.inl rfl, fun q => absurd rfl q⟩) (fun c2 => Ok_s ⟨Or.inr rfl, fun _ => ?_⟩)
  rw [ti_lt, t0] at c
  rw [ti_le] at c2
  exact ⟨⟨by omega, by omega⟩, by omega⟩
theorem k_X0_isKind {S0 : SS} (h : I0 S0) (p1 p2 : Int32) : Ok (f_X0_isKind S0 p1 p2) (fun r => zb r ∧ (r ≠ 0 → IV 0 59 p1 ∧ p1.toInt < (gI S0 0).toInt ∧ gA S0 4 p1.toNatClampNeg = p2)) := by
  refine Ok_B (k_X0_has h p1) (fun r hr => ?_)
  refine Ok_c (fun c => Ok_s ⟨Or.inl rfl, fun q => absurd rfl q⟩) (fun c => ?_)
  have ⟨g1, g2⟩ := hr.2 c
  refine Ok_G (IV_in g1 (by decide) (by decide)) ?_
  exact Ok_c (fun c2 => Ok_s ⟨Or.inr rfl, fun _ => ⟨g1, g2, c2⟩⟩) (fun c2 => Ok_s ⟨Or.inl rfl, fun q => absurd rfl q⟩)
theorem k_X0_isSource {S0 : SS} (h : I0 S0) (p1 : Int32) : Ok (f_X0_isSource S0 p1) (fun r => zb r ∧ (r ≠ 0 → IV 0 59 p1 ∧ p1.toInt < (gI S0 0).toInt)) := by
  refine Ok_B (k_X0_isKind h p1 0) (fun r hr => ?_)
  refine Ok_c (fun c => ?_) (fun c => Ok_s ⟨Or.inr rfl, fun _ => ⟨(hr.2 c).1, (hr.2 c).2.1⟩⟩)
  refine Ok_B (k_X0_isKind h p1 3) (fun r2 hr2 => ?_)
  exact Ok_c (fun c => Ok_s ⟨Or.inl rfl, fun q => absurd rfl q⟩) (fun c => Ok_s ⟨Or.inr rfl, fun _ => ⟨(hr2.2 c).1, (hr2.2 c).2.1⟩⟩)
theorem k_X0_find {S0 : SS} (h : I0 S0) (p1 : Int64) : Ok (f_X0_find S0 p1) (fun r => IV (-1) 59 r ∧ (r ≠ -1 → r.toInt < (gI S0 0).toInt ∧ IV 0 59 r ∧ gB S0 2 r.toNatClampNeg = p1)) := by
  refine Ok_F (fun v : Int32 => IV 0 60 v) (fun v => (60 - v.toInt).toNat) (fun v hv => ?_) IV_00 (mz 60)
  refine Ok_c (fun c => Ok_s ⟨IV_lit, fun q => absurd rfl q⟩) (fun c => ?_)
  have ⟨g1, g2, g3, g4, g5⟩ := lp_up (by decide) hv h.1.2 c
  refine Ok_G (IV_in g1 (by decide) (by decide)) ?_
  refine Ok_c (fun c2 => Ok_s ⟨IV_wk g1 (by decide) (by decide), fun _ => ⟨g4, g1, lc_eq.mp c2⟩⟩) (fun c2 => Ok_l (Ok_s (OkI_l g2 g3)))
theorem k_X0_size {S0 : SS} (h : I0 S0) {p1 : Int32} (hp : IV 0 59 p1) : Ok (f_X0_size S0 p1) (fun r => IV 0 12 r ∧ (gA S0 4 p1.toNatClampNeg = 1 → IV 0 6 r)) := by
  have g := h.2.2.1 p1.toNatClampNeg
  refine Ok_G (IV_in hp (by decide) (by decide)) ?_
  refine Ok_c (fun c => Ok_s ?_) (fun c => Ok_s ⟨g, fun q => absurd q c⟩)
  have e := IV_div2 (u := 0) (v := 6) rfl g (by decide) (by decide) (by decide)
  exact ⟨IV_wk e (by decide) (by decide), fun _ => e⟩
theorem k_X0_part {S0 : SS} (h : I0 S0) {p1 p2 : Int32} (hp : IV 0 59 p1) (hp2 : IV 0 11 p2) : Ok (f_X0_part S0 p1 p2) (fun r => IV 0 59 r) := by
  have e : IV 0 719 (p1 * (12 : Int32) + p2) := IV_add rfl (IV_mul (u := 0) (v := 708) rfl hp (IV_lit (a := 12) (b := 12)) (by decide) (by decide) (by decide) (by decide) (by decide)) hp2 (by decide) (by decide) (by decide) (by decide)
  exact Ok_G (IV_in e (by decide) (by decide)) (Ok_s (h.2.1 _))
theorem k_X0_isLow {S0 : SS} {p1 : Int32} (hp : IV 0 59 p1) (p2 : Int32) : Ok (f_X0_isLow S0 p1 p2) (fun r => zb r) :=
  Ok_G (IV_in hp (by decide) (by decide)) (Ok_c (fun _ => Ok_s (Or.inr rfl)) (fun _ => Ok_s (Or.inl rfl)))
theorem k_X0_dependsOn {S0 : SS} {p1 : Int32} (hp : IV 0 59 p1) (p2 : Int64) : Ok (f_X0_dependsOn S0 p1 p2) (fun r => zb r) :=
  Ok_G (IV_in hp (by decide) (by decide)) (Ok_c (fun _ => Ok_s (Or.inl rfl)) (fun _ => Ok_s (Or.inr rfl)))
theorem k_X0_add {S0 : SS} (h : I0 S0) (p1 : Int64) (p2 p3 : Int32) : Ok (f_X0_add S0 p1 p2 p3) I0 := by
  obtain ⟨h1, h2, h3, h4⟩ := h
  refine Ok_c (fun c => ?_) (fun _ => Ok_s ⟨h1, h2, h3, h4⟩)
  have hc : IV 0 59 (gI S0 0) := IV_lt_l c h1 (IV_lit (a := 60) (b := 60)) (by decide) (by decide)
  have hv : vp_in (gI S0 0) 60 := IV_in hc (by decide) (by decide)
  have h3' : AR 0 12 (upd (gA S0 8) (gI S0 0).toNatClampNeg 0) := AR_upd h3 IV_00
  refine Ok_G hv (Ok_l (Ok_G hv (Ok_l (Ok_G hv (Ok_l (Ok_G hv (Ok_l (Ok_b ?_))))))))
  have fin : ∀ v20 : Int32, Ok (zG (vp_in (gI S0 0) 60) (some v20)) (fun _ => True) := fun _ => Ok_G hv (Ok_s trivial)
  have e1 : IV 0 60 (gI S0 0 + (1 : Int32)) := IV_add rfl hc (IV_lit (a := 1) (b := 1)) (by decide) (by decide) (by decide) (by decide)
  refine Ok_c (fun _ => Ok_s ?_) (fun _ => Ok_s ?_)
  all_goals
    refine Ok_G hv (Ok_l (Ok_G hv (Ok_l (Ok_G hv (Ok_l (Ok_G hv (Ok_l (Ok_G hv (Ok_l (Ok_b ?_))))))))))
    refine Ok_c (fun _ => Ok_l (Ok_s (Ok_l (Ok_s ?_)))) (fun _ => Ok_s (Ok_l (Ok_s ?_)))
    all_goals exact ⟨e1, h2, h3', h4⟩
theorem k_X0_addPart {S0 : SS} (h : I0 S0) (p1 p2 : Int32) : Ok (f_X0_addPart S0 p1 p2) I0 := by
  obtain ⟨h1, h2, h3, h4⟩ := id h
  refine Ok_B (k_X0_has h p1) (fun r hr => ?_)
  refine Ok_c (fun c => Ok_s h) (fun c => ?_)
  refine Ok_B (k_X0_has h p2) (fun r2 hr2 => ?_)
  refine Ok_c (fun c => Ok_s h) (fun c2 => ?_)
  have ⟨g1, _⟩ := hr.2 c
  have ⟨g2, _⟩ := hr2.2 c2
  have hv : vp_in p1 60 := IV_in g1 (by decide) (by decide)
  refine Ok_G hv (Ok_c (fun c3 => ?_) (fun _ => Ok_s h))
  have hc : IV 0 11 (gA S0 8 p1.toNatClampNeg) := IV_lt_l c3 (h3 _) (IV_lit (a := 12) (b := 12)) (by decide) (by decide)
  have e : IV 0 719 (p1 * (12 : Int32) + gA S0 8 p1.toNatClampNeg) := IV_add rfl (IV_mul (u := 0) (v := 708) rfl g1 (IV_lit (a := 12) (b := 12)) (by decide) (by decide) (by decide) (by decide) (by decide)) hc (by decide) (by decide) (by decide) (by decide)
  have e1 : IV 0 12 (gA S0 8 p1.toNatClampNeg + (1 : Int32)) := IV_add rfl hc (IV_lit (a := 1) (b := 1)) (by decide) (by decide) (by decide) (by decide)
  have k2 : AR 0 59 (upd (gA S0 7) (p1 * (12 : Int32) + gA S0 8 p1.toNatClampNeg).toNatClampNeg p2) := AR_upd h2 g2
  have k3 : AR 0 12 (upd (gA S0 8) p1.toNatClampNeg (gA S0 8 p1.toNatClampNeg + (1 : Int32))) := AR_upd h3 e1
  refine Ok_G (IV_in e (by decide) (by decide)) (Ok_l (Ok_l ?_))
  exact Ok_c (fun _ => Ok_s ⟨h1, k2, k3, h4⟩) (fun _ => Ok_l (Ok_s ⟨h1, k2, k3, h4⟩))
theorem k_X0_beginDriver {S0 : SS} (h : I0 S0) (p1 p2 : Int32) : Ok (f_X0_beginDriver S0 p1 p2) I0 := by
  refine Ok_B (k_X0_has h p1) (fun r hr => ?_)
  refine Ok_c (fun c => Ok_s h) (fun c => Ok_c (fun _ => Ok_s h) (fun _ => ?_))
  have ⟨g1, _⟩ := hr.2 c
  exact Ok_G (IV_in g1 (by decide) (by decide)) (Ok_B (k_X0_size h g1) (fun r hr => Ok_l (Ok_s h)))
theorem k_X0_levelAbove {S0 : SS} (h : I0 S0) (p1 : Int64) : Ok (f_X0_levelAbove S0 p1) (fun _ => True) := by
  refine Ok_F (fun v : Int32 × Int32 => IV 0 60 v.2) (fun v => (60 - v.2.toInt).toNat) (fun v hv => ?_) IV_00 (mz 60)
  obtain ⟨v1, v2⟩ := v
  refine Ok_c (fun c => Ok_s trivial) (fun c => ?_)
  have ⟨g1, g2, g3, g4, g5⟩ := lp_up (by decide) hv h.1.2 c
  exact Ok_c (fun _ => Ok_G (IV_in g1 (by decide) (by decide)) (Ok_l (Ok_l (Ok_s (OkI_l g2 g3))))) (fun _ => Ok_l (Ok_s (OkI_l g2 g3)))
theorem k_X0_arrange_27 (v : Int64 × Int32 × Int32 × SS) (hv : IV 0 60 v.2.1 ∧ IV 0 60 v.2.2.1 ∧ I0 v.2.2.2) : Ok (b_X0_arrange_27 v) (OkI (fun v : Int64 × Int32 × Int32 × SS => IV 0 60 v.2.1 ∧ IV 0 60 v.2.2.1 ∧ I0 v.2.2.2) (fun v => (60 - v.2.2.1.toInt).toNat) (fun w : Int64 × Int32 × SS => IV 0 60 w.2.1 ∧ I0 w.2.2) v) := by
  obtain ⟨v1, v2, v3, S⟩ := v
  obtain ⟨hv2, hv3, hS⟩ := hv
  refine Ok_c (fun c => Ok_s ⟨hv2, hS⟩) (fun c => Ok_c (fun _ => Ok_s ⟨hv2, hS⟩) (fun c0 => ?_))
  have ⟨g1, g2, g3, g4, g5⟩ := lp_up (by decide) hv3 hS.1.2 c
  have ⟨k1, k2, k3, k4, k5⟩ := lp_up (by decide) hv2 hS.1.2 c0
  refine Ok_B (P := fun _ => True) (Ok_c (fun _ => Ok_s trivial) (fun _ => Ok_s trivial)) (fun b _ => ?_)
  refine Ok_c (fun _ => ?_) (fun _ => Ok_l (Ok_s (OkI_l ⟨hv2, g2, hS⟩ g3)))
  refine Ok_B (k_X0_dependsOn g1 _) (fun r _ => ?_)
  refine Ok_c (fun _ => ?_) (fun _ => Ok_l (Ok_s (OkI_l ⟨hv2, g2, hS⟩ g3)))
  obtain ⟨q1, q2, q3, q4⟩ := hS
  have q5 : AR 0 59 (upd (gA S 12) v2.toNatClampNeg v3) := AR_upd q4 g1
  have hS2 : I0 (sA S 12 (upd (gA S 12) v2.toNatClampNeg v3)) := ⟨q1, q2, q3, q5⟩
  refine Ok_G (IV_in k1 (by decide) (by decide)) (Ok_l (Ok_l (Ok_l (Ok_G (IV_in g1 (by decide) (by decide)) ?_))))
  refine Ok_B (k_X0_levelAbove hS2 _) (fun r _ => Ok_l (Ok_l (Ok_s (OkI_l ⟨k2, g2, ?_⟩ g3))))
  exact ⟨q1, q2, q3, q5⟩
theorem k_X0_arrange_7 (v : Int64 × Int32 × Int32 × SS) (hv : IV 0 60 v.2.1 ∧ IV 0 60 v.2.2.1 ∧ I0 v.2.2.2) : Ok (b_X0_arrange_7 v) (OkI (fun v : Int64 × Int32 × Int32 × SS => IV 0 60 v.2.1 ∧ IV 0 60 v.2.2.1 ∧ I0 v.2.2.2) (fun v => (60 - v.2.2.1.toInt).toNat) I0 v) := by
  obtain ⟨v1, v2, v3, S⟩ := v
  obtain ⟨hv2, hv3, hS⟩ := hv
  refine Ok_c (fun c => Ok_s hS) (fun c => Ok_c (fun _ => Ok_s hS) (fun c0 => ?_))
  have ⟨g1, g2, g3, g4, g5⟩ := lp_up (by decide) hv3 hS.1.2 c
  refine Ok_B (Ok_F _ _ k_X0_arrange_27 ⟨hv2, IV_00, hS⟩ (mz 60)) (fun w hw => ?_)
  obtain ⟨w1, w2, w3⟩ := w
  exact Ok_l (Ok_s (OkI_l ⟨hw.1, g2, hw.2⟩ g3))
theorem k_X0_arrange {S0 : SS} (h : I0 S0) : Ok (f_X0_arrange S0) I0 := Ok_F _ _ k_X0_arrange_7 ⟨IV_00, IV_00, h⟩ (mz 60)
