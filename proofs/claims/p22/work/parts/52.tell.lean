/-! the reference's parser: its small steps -/
def GD (S : SS) : Prop := gI S 4 = 0
def aR (S : SS) : Int := (gI S 26).toInt
def aA (S : SS) : Int := (gI S 27).toInt
def aD (S : SS) : Int := (gI S 28).toInt
theorem M7_FX {Zt B T : Int} {S U : SS} (h : M7 Zt B T S) (f : FX S U) : M7 Zt B T U := by
  obtain ⟨⟨n1, n2, n3, n4, n5, n6⟩, h2, h3, h4, h5, h6⟩ := h
  refine ⟨⟨?_, ?_, ?_, ?_, ?_, ?_⟩, ?_, ?_, ?_, ?_, ?_⟩
  · rw [FX_i f (by decide)]; exact n1
  · rw [FX_i f (by decide)]; exact n2
  · rw [FX_A f]; exact n3
  · rw [FX_A f]; exact n4
  · rw [FX_A f, FX_A f]; exact n5
  · rw [FX_A f]; exact n6
  · rw [FX_A f]; exact h2
  · rw [FX_i f (by decide)]; exact h3
  · rw [FX_A f]; exact h4
  · rw [FX_i f (by decide)]; exact h5
  · rw [FX_A f]; exact h6
theorem k_X7_isGood (S : SS) : Ok (f_X7_isGood S) (fun r => (r = 0 ↔ ¬ GD S)) := Ok_c (fun c => Ok_s ⟨fun q => absurd q (by decide), fun q => absurd c q⟩) (fun c => Ok_s ⟨fun _ => c, fun _ => rfl⟩)
/-- only the FAULT is told anew -/
def FF (S U : SS) : Prop := U.2 = S.2 ∧ ∀ k : Nat, k ≠ 4 → k ≠ 5 → gI U k = gI S k
theorem FF_r (S : SS) : FF S S := ⟨rfl, fun _ _ _ => rfl⟩
theorem FF_A {S T : SS} (h : FF S T) (k : Nat) : gA T k = gA S k := by
  show T.2.2.1 k = S.2.2.1 k
  rw [h.1]
theorem FF_B {S T : SS} (h : FF S T) (k : Nat) : gB T k = gB S k := by
  show T.2.2.2 k = S.2.2.2 k
  rw [h.1]
theorem FF_L {S T : SS} (h : FF S T) (k : Nat) : gL T k = gL S k := by
  show T.2.1 k = S.2.1 k
  rw [h.1]
theorem FF_i {S T : SS} (h : FF S T) {k : Nat} (hk : k ≠ 4 ∧ k ≠ 5) : gI T k = gI S k := h.2 k hk.1 hk.2
theorem M7_FF {Zt B T : Int} {S U : SS} (h : M7 Zt B T S) (f : FF S U) : M7 Zt B T U := by
  obtain ⟨⟨n1, n2, n3, n4, n5, n6⟩, h2, h3, h4, h5, h6⟩ := h
  refine ⟨⟨?_, ?_, ?_, ?_, ?_, ?_⟩, ?_, ?_, ?_, ?_, ?_⟩
  · rw [FF_i f (by decide)]; exact n1
  · rw [FF_i f (by decide)]; exact n2
  · rw [FF_A f]; exact n3
  · rw [FF_A f]; exact n4
  · rw [FF_A f, FF_A f]; exact n5
  · rw [FF_A f]; exact n6
  · rw [FF_A f]; exact h2
  · rw [FF_i f (by decide)]; exact h3
  · rw [FF_A f]; exact h4
  · rw [FF_i f (by decide)]; exact h5
  · rw [FF_A f]; exact h6
theorem LX_FF {S U : SS} (h : LX S) (f : FF S U) : LX U := by
  have e6 : gI U 6 = gI S 6 := FF_i f (by decide)
  have e7 : gI U 7 = gI S 7 := FF_i f (by decide)
  have e3 : gI U 3 = gI S 3 := FF_i f (by decide)
  have e8 : gI U 8 = gI S 8 := FF_i f (by decide)
  have e9 : gI U 9 = gI S 9 := FF_i f (by decide)
  unfold LX aT aE aZ
  rw [e6, e7, e3, e8, e9]
  exact h
theorem k_X7_fails (S : SS) {p1 : Int32} (hp : p1 ≠ 0) (p2 : Int32) : Ok (f_X7_fails S p1 p2) (fun U => FF S U ∧ ¬ GD U) := by
  refine Ok_c (fun _ => Ok_L (fun A eA => Ok_L (fun C eC => Ok_s ⟨⟨?_, fun k a b => ?_⟩, ?_⟩))) (fun c => Ok_s ⟨FF_r S, fun q => ?_⟩)
  · rw [eC, eA]; rfl
  · rw [eC, gI_ne b, eA, gI_ne a]
  · unfold GD
    rw [eC, gI_ne (by decide), eA, gI_eq]
    exact hp
  · unfold GD at q
    rw [q] at c
    exact absurd c (by decide)
theorem k_X7_wrong (S : SS) : Ok (f_X7_wrong S) (fun U => FF S U ∧ ¬ GD U) := Ok_B (P := fun v => v ≠ 0) (Ok_c (fun _ => Ok_s (by decide)) (fun _ => Ok_s (by decide))) (fun v hv => Ok_B (k_X7_fails S hv _) (fun U hU => Ok_s hU))
theorem k_X7_is {S : SS} (h : LX S) (p1 : Int32) : Ok (f_X7_is S p1) (fun r => zb r ∧ (r ≠ 0 → gI S 8 = 5)) := by
  refine Ok_c (fun c => Ok_B (k_X7_sign (S7 := S) (p1 := gI S 6) h.1 h.2.2.2.1) (fun r _ => ?_)) (fun _ => Ok_s ⟨Or.inl rfl, fun q => absurd rfl q⟩)
  exact Ok_c (fun _ => Ok_s ⟨Or.inr rfl, fun _ => c⟩) (fun _ => Ok_s ⟨Or.inl rfl, fun q => absurd rfl q⟩)
theorem k_X7_isWord (S : SS) (p1 : Int64) : Ok (f_X7_isWord S p1) (fun r => zb r ∧ (r ≠ 0 → gI S 8 = 3)) := Ok_c (fun c => Ok_c (fun _ => Ok_s ⟨Or.inr rfl, fun _ => c⟩) (fun _ => Ok_s ⟨Or.inl rfl, fun q => absurd rfl q⟩)) (fun _ => Ok_s ⟨Or.inl rfl, fun q => absurd rfl q⟩)
/-- a step of the parser that keeps rows and counts; on good ends it is further on in the text -/
def MU (S U : SS) : Prop := LX U ∧ U.2.2 = S.2.2 ∧ (∀ k : Nat, k ≠ 4 → k ≠ 5 → k ≠ 6 → k ≠ 7 → k ≠ 8 → k ≠ 9 → gI U k = gI S k) ∧ (GD U → GD S ∧ aT S + 1 ≤ aT U)
theorem MU_A {S T : SS} (h : MU S T) (k : Nat) : gA T k = gA S k := by
  show T.2.2.1 k = S.2.2.1 k
  rw [h.2.1]
theorem MU_B {S T : SS} (h : MU S T) (k : Nat) : gB T k = gB S k := by
  show T.2.2.2 k = S.2.2.2 k
  rw [h.2.1]
theorem MU_i {S T : SS} (h : MU S T) {k : Nat} (hk : k ≠ 4 ∧ k ≠ 5 ∧ k ≠ 6 ∧ k ≠ 7 ∧ k ≠ 8 ∧ k ≠ 9) : gI T k = gI S k := h.2.2.1 k hk.1 hk.2.1 hk.2.2.1 hk.2.2.2.1 hk.2.2.2.2.1 hk.2.2.2.2.2
theorem M7_MU {Zt B T : Int} {S U : SS} (h : M7 Zt B T S) (f : MU S U) : M7 Zt B T U := by
  obtain ⟨⟨n1, n2, n3, n4, n5, n6⟩, h2, h3, h4, h5, h6⟩ := h
  refine ⟨⟨?_, ?_, ?_, ?_, ?_, ?_⟩, ?_, ?_, ?_, ?_, ?_⟩
  · rw [MU_i f (by decide)]; exact n1
  · rw [MU_i f (by decide)]; exact n2
  · rw [MU_A f]; exact n3
  · rw [MU_A f]; exact n4
  · rw [MU_A f, MU_A f]; exact n5
  · rw [MU_A f]; exact n6
  · rw [MU_A f]; exact h2
  · rw [MU_i f (by decide)]; exact h3
  · rw [MU_A f]; exact h4
  · rw [MU_i f (by decide)]; exact h5
  · rw [MU_A f]; exact h6
theorem MU_FF {S U : SS} (h : LX S) (f : FF S U) (g : ¬ GD U) : MU S U := ⟨LX_FF h f, by rw [f.1], fun k a b _ _ _ _ => f.2 k a b, fun q => absurd q g⟩
theorem GD_FX {S U : SS} (f : FX S U) : GD U ↔ GD S := by
  unfold GD
  rw [FX_i f (by decide)]
/-- on behind a TOKEN that is none of END -/
theorem k_next {S : SS} (h : LX S) (ht : gI S 8 ≠ 0) : Ok (f_X7_next S) (fun U => FX S U ∧ MU S U ∧ aT S + 1 ≤ aT U ∧ aE S ≤ aT U) := by
  obtain ⟨h1, h2, h3, h4, h5, h6, h7, h8⟩ := h
  have h9 := h6 ht
  refine Ok_w (k_X7_next (S := S) (by omega) h3 h4) (fun U hU => ?_)
  obtain ⟨f, l, e⟩ := hU
  exact ⟨f, ⟨l, f.1, fun k _ _ a b c d => f.2 k a b c d, fun q => ⟨(GD_FX f).mp q, by omega⟩⟩, by omega, e⟩
/-- on, wherever it stands -/
theorem k_next0 {S : SS} (h : LX S) : Ok (f_X7_next S) (fun U => FX S U ∧ LX U ∧ aT S ≤ aT U) := by
  obtain ⟨h1, h2, h3, h4, h5, h6, h7, h8⟩ := h
  refine Ok_w (k_X7_next (S := S) (by omega) h3 h4) (fun U hU => ?_)
  obtain ⟨f, l, e⟩ := hU
  exact ⟨f, l, by omega⟩
theorem k_X7_must {S : SS} (h : LX S) (p1 : Int32) : Ok (f_X7_must S p1) (fun U => MU S U) := by
  refine Ok_B (k_X7_is h p1) (fun r hr => Ok_c (fun _ => Ok_B (k_X7_wrong S) (fun U hU => Ok_s (MU_FF h hU.1 hU.2))) (fun c => ?_))
  have h5 := hr.2 c
  exact Ok_B (k_next h (by rw [h5]; decide)) (fun U hU => Ok_s hU.2.1)
theorem k_X7_newOf {S : SS} (hb : IV 0 1 (gI S 30)) (hr : IV 0 60 (gI S 26)) (p1 : Int64) : Ok (f_X7_newOf S p1) (fun r => IV (-1) 59 r ∧ (0 ≤ r.toInt → r.toInt < aR S ∧ gB S 11 ((60 : Int32) * gI S 30 + r).toNatClampNeg = p1) ∧ (r.toInt < 0 → ∀ j : Int32, IV 0 59 j → j.toInt < aR S → gB S 11 ((60 : Int32) * gI S 30 + j).toNatClampNeg ≠ p1)) := by
  refine Ok_F (fun v : Int32 => IV 0 60 v ∧ ∀ j : Int32, IV 0 59 j → j.toInt < v.toInt → gB S 11 ((60 : Int32) * gI S 30 + j).toNatClampNeg ≠ p1) (fun v => (60 - v.toInt).toNat) (fun v hv => ?_) ⟨IV_00, fun j hj q => ?_⟩ (mz 60)
  · obtain ⟨hv, hn⟩ := hv
    refine Ok_c (fun c => Ok_s ⟨IV_lit, fun q => absurd q (by decide), fun _ j hj q => hn j hj ?_⟩) (fun c => ?_)
    · rw [ti_le] at c
      have q : j.toInt < (gI S 26).toInt := q
      omega
    · have ⟨g1, g2, g3, g4, g5⟩ := lp_up (by decide) hv hr.2 c
      refine Ok_G (k_in120 (k_ix hb g1)) (Ok_c (fun c2 => Ok_s ⟨IV_wk g1 (by decide) (by decide), fun _ => ⟨g4, lc_eq.mp c2⟩, fun q => absurd g1.1 (by omega)⟩) (fun c2 => Ok_l (Ok_s (OkI_l ⟨g2, fun j hj q => ?_⟩ g3))))
      rw [g5] at q
      rcases Int.lt_or_le j.toInt v.toInt with w | w
      · exact hn j hj w
      · have : j = v := Int32.toInt_inj.mp (by omega)
        rw [this]
        exact fun e => c2 (lc_eq.mpr e)
  · have t0 : (0 : Int32).toInt = 0 := by decide
    rw [t0] at q
    exact absurd hj.1 (by omega)
