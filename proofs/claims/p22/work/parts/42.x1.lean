/-! the class's lexer and logic: no throw -/
theorem m2000 {x : Int32} (h : 0 ≤ x.toInt) : (2000 - x.toInt).toNat < 10000 := by omega
def I1 (S : SS) : Prop := IV 0 2000 (gI S 1) ∧ IV 0 2000 (gI S 2)
theorem Ok_t {α : Type} {x : Option α} (h : Ok x (fun _ => True)) : Ok x (fun _ => True) := h
theorem k_X1_isBlank (p1 : Int32) : Ok (f_X1_isBlank p1) zb := Ok_c (fun _ => Ok_s (Or.inr rfl)) (fun _ => Ok_c (fun _ => Ok_s (Or.inr rfl)) (fun _ => Ok_s (Or.inl rfl)))
theorem k_X1_isLetter (p1 : Int32) : Ok (f_X1_isLetter p1) zb := Ok_c (fun _ => Ok_s (Or.inl rfl)) (fun _ => Ok_c (fun _ => Ok_s (Or.inl rfl)) (fun _ => Ok_s (Or.inr rfl)))
theorem k_X1_isDigit (p1 : Int32) : Ok (f_X1_isDigit p1) zb := Ok_c (fun _ => Ok_s (Or.inl rfl)) (fun _ => Ok_c (fun _ => Ok_s (Or.inl rfl)) (fun _ => Ok_s (Or.inr rfl)))
theorem k_X1_isLetterOrDigit (p1 : Int32) : Ok (f_X1_isLetterOrDigit p1) zb := by
  refine Ok_B (k_X1_isLetter p1) (fun r hr => ?_)
  refine Ok_c (fun _ => ?_) (fun _ => Ok_s (Or.inr rfl))
  exact Ok_B (k_X1_isDigit p1) (fun r hr => Ok_c (fun _ => Ok_s (Or.inl rfl)) (fun _ => Ok_s (Or.inr rfl)))
theorem k_X1_isSign (p1 : Int32) : Ok (f_X1_isSign p1) zb := by
  unfold f_X1_isSign
  repeat' (first | exact Ok_s (Or.inr rfl) | exact Ok_s (Or.inl rfl) | refine Ok_c (fun _ => ?_) (fun _ => ?_))
theorem k_X1_begin {S1 : SS} (ft : Nat → Int32) {p2 : Int32} (hp : IV 0 2000 p2) : Ok (f_X1_begin S1 ft p2) I1 := by
  refine Ok_l (Ok_l (Ok_s ⟨?_, IV_00⟩))
  show IV 0 2000 (if (2000 : Int32) < p2 then (2000 : Int32) else p2)
  split
  · exact IV_lit
  · exact hp
theorem k_X1_next {x n : Int32} (hx : IV 0 2000 x) (hn : IV 0 2000 n) (c : ¬ n ≤ x) : IV 0 1999 x ∧ IV 0 2000 (x + (1 : Int32)) ∧ (2000 - (x + (1 : Int32)).toInt).toNat < (2000 - x.toInt).toNat := by
  have ⟨g1, g2, g3, g4, g5⟩ := lp_up (by decide) hx hn.2 c
  exact ⟨g1, g2, g3⟩
theorem k_X1_takeDigit {S1 : SS} (h : I1 S1) (ft : Nat → Int32) (hn : IV 0 1999 (gI S1 2)) : Ok (f_X1_takeDigit S1 ft) I1 := by
  have e : IV 0 2000 (gI S1 2 + (1 : Int32)) := IV_add rfl hn (IV_lit (a := 1) (b := 1)) (by decide) (by decide) (by decide) (by decide)
  refine Ok_G (IV_in hn (by decide) (by decide)) (Ok_l (Ok_l ?_))
  refine Ok_B (P := fun _ => True) ?_ (fun a _ => Ok_B (P := fun _ => True) ?_ (fun b _ => Ok_l (Ok_s ⟨h.1, e⟩)))
  · refine Ok_c (fun _ => Ok_s trivial) (fun c => ?_)
    have ⟨g1, g2, g3⟩ := k_X1_next e h.1 c
    exact Ok_G (IV_in g1 (by decide) (by decide)) (Ok_B (k_X1_isLetterOrDigit _) (fun r _ => Ok_c (fun _ => Ok_s trivial) (fun _ => Ok_s trivial)))
  · exact Ok_c (fun _ => Ok_s trivial) (fun _ => Ok_c (fun _ => Ok_s trivial) (fun _ => Ok_s trivial))
theorem k_X1_takeWord {S1 : SS} (h : I1 S1) (ft : Nat → Int32) : Ok (f_X1_takeWord S1 ft) I1 := by
  refine Ok_l (Ok_B (P := I1) ?_ (fun S hS => Ok_B (P := fun _ => True) (Ok_c (fun _ => Ok_s trivial) (fun _ => Ok_s trivial)) (fun b _ => Ok_l (Ok_s hS))))
  refine Ok_F (fun S : SS => I1 S) (fun S => (2000 - (gI S 2).toInt).toNat) (fun S hS => ?_) h (m2000 h.2.1)
  refine Ok_c (fun _ => Ok_s hS) (fun c => ?_)
  have ⟨g1, g2, g3⟩ := k_X1_next hS.2 hS.1 c
  refine Ok_G (IV_in g1 (by decide) (by decide)) (Ok_B (k_X1_isLetterOrDigit _) (fun r _ => Ok_c (fun _ => Ok_s hS) (fun _ => Ok_l (Ok_l (Ok_s (OkI_l ⟨hS.1, g2⟩ g3))))))
theorem k_X1_advance {S1 : SS} (h : I1 S1) (ft : Nat → Int32) : Ok (f_X1_advance S1 ft) I1 := by
  refine Ok_B (P := I1) ?_ (fun S hS => Ok_l (Ok_c (fun c => ?_) (fun _ => Ok_l (Ok_s hS))))
  · refine Ok_F (fun S : SS => I1 S) (fun S => (2000 - (gI S 2).toInt).toNat) (fun S hS => ?_) h (m2000 h.2.1)
    refine Ok_c (fun _ => Ok_s hS) (fun c => ?_)
    have ⟨g1, g2, g3⟩ := k_X1_next hS.2 hS.1 c
    exact Ok_G (IV_in g1 (by decide) (by decide)) (Ok_B (k_X1_isBlank _) (fun r _ => Ok_c (fun _ => Ok_s hS) (fun _ => Ok_l (Ok_s (OkI_l ⟨hS.1, g2⟩ g3)))))
  · have c' : ¬ gI S 1 ≤ gI S 2 := fun q => absurd c (Int32.not_lt.mpr q)
    have ⟨g1, g2, g3⟩ := k_X1_next hS.2 hS.1 c'
    refine Ok_G (IV_in g1 (by decide) (by decide)) (Ok_l (Ok_B (k_X1_isLetter _) (fun r _ => Ok_c (fun _ => ?_) (fun _ => ?_))))
    · refine Ok_B (k_X1_isDigit _) (fun r _ => Ok_c (fun _ => ?_) (fun _ => ?_))
      · exact Ok_B (k_X1_isSign _) (fun r _ => Ok_B (P := fun _ => True) (Ok_c (fun _ => Ok_s trivial) (fun _ => Ok_s trivial)) (fun b _ => Ok_l (Ok_l (Ok_s ⟨hS.1, g2⟩))))
      · exact Ok_B (k_X1_takeDigit (S1 := sI S 4 (gI S 2)) hS ft g1) (fun S' hS' => Ok_s hS')
    · exact Ok_B (k_X1_takeWord (S1 := sI S 4 (gI S 2)) hS ft) (fun S' hS' => Ok_s hS')
/-! Logic -/
theorem k_X2_takenIn (p1 : Int32) : Ok (f_X2_takenIn p1) (fun _ => True) := Ok_c (fun _ => Ok_s trivial) (fun _ => Ok_s trivial)
theorem k_X2_isTurned (p1 : Int32) : Ok (f_X2_isTurned p1) zb := Ok_c (fun _ => Ok_s (Or.inr rfl)) (fun _ => Ok_s (Or.inl rfl))
theorem k_X2_plainValue (p1 p2 p3 p4 : Int32) : Ok (f_X2_plainValue p1 p2 p3 p4) (fun _ => True) := by
  unfold f_X2_plainValue
  refine Ok_B (P := fun _ => True) (Ok_c (fun _ => Ok_s trivial) (fun _ => Ok_s trivial)) (fun b _ => ?_)
  repeat' (first | exact Ok_s trivial | refine Ok_c (fun _ => ?_) (fun _ => ?_))
theorem k_in60 {x : Int32} (h : IV 0 59 x) : vp_in x 60 := IV_in h (by decide) (by decide)
theorem k_X2_muxValue {S0 : SS} (h : I0 S0) (fw : Nat → Int32) {p1 : Int32} (hp : IV 0 59 p1) : Ok (f_X2_muxValue S0 fw p1) (fun _ => True) := by
  refine Ok_B (k_X0_part h hp IV_lit) (fun r1 h1 => Ok_G (k_in60 h1) (Ok_l ?_))
  refine Ok_B (k_X0_part h hp IV_lit) (fun r2 h2 => Ok_G (k_in60 h2) (Ok_B (k_X2_takenIn _) (fun a _ => ?_)))
  refine Ok_B (k_X0_part h hp IV_lit) (fun r3 h3 => Ok_G (k_in60 h3) (Ok_B (k_X2_takenIn _) (fun b _ => ?_)))
  repeat' (first | exact Ok_s trivial | refine Ok_c (fun _ => ?_) (fun _ => ?_))
theorem k_lp {v n : Int32} {N : Int} (hN : N ≤ 100000) (hv : IV 0 N v) (hn : IV 0 N n) (c : ¬ n ≤ v) : IV 0 (N - 1) v ∧ IV 0 N (v + 1) ∧ (N - (v + 1).toInt).toNat < (N - v.toInt).toNat := by
  have ⟨g1, g2, g3, g4, g5⟩ := lp_up hN hv hn.2 c
  exact ⟨g1, g2, g3⟩
theorem k_X2_gateValue {S0 : SS} (h : I0 S0) (fw : Nat → Int32) {p1 : Int32} (hp : IV 0 59 p1) : Ok (f_X2_gateValue S0 fw p1) (fun _ => True) := by
  refine Ok_G (k_in60 hp) (Ok_l (Ok_c (fun _ => ?_) (fun _ => ?_)))
  · exact Ok_B (k_X2_muxValue h fw hp) (fun _ _ => Ok_s trivial)
  · refine Ok_B (k_X0_size h hp) (fun r hr => ?_)
    refine Ok_B (P := fun _ => True) ?_ (fun w _ => ?_)
    · refine Ok_F (fun v : Int32 × Int32 × Int32 => IV 0 12 v.2.2) (fun v => (12 - v.2.2.toInt).toNat) (fun v hv => ?_) IV_00 (mz 12)
      obtain ⟨a, b, v⟩ := v
      refine Ok_c (fun _ => Ok_s trivial) (fun c => ?_)
      have ⟨g1, g2, g3⟩ := k_lp (by decide) hv hr.1 c
      refine Ok_B (k_X0_part h hp g1) (fun r3 h3 => Ok_G (k_in60 h3) (Ok_l ?_))
      refine Ok_B (P := fun _ => True) (Ok_c (fun _ => Ok_s trivial) (fun _ => Ok_s trivial)) (fun b _ => Ok_l ?_)
      exact Ok_c (fun _ => Ok_l (Ok_l (Ok_s (OkI_l g2 g3)))) (fun _ => Ok_l (Ok_l (Ok_s (OkI_l g2 g3))))
    · obtain ⟨a, b⟩ := w
      refine Ok_B (k_X2_plainValue _ _ _ _) (fun r _ => Ok_B (k_X2_isTurned _) (fun t _ => ?_))
      exact Ok_c (fun _ => Ok_s trivial) (fun _ => Ok_c (fun _ => Ok_s trivial) (fun _ => Ok_s trivial))
theorem k_X2_driverValue {S0 : SS} (h : I0 S0) (fw : Nat → Int32) {p1 p2 : Int32} (hp : IV 0 59 p1) (hp2 : IV 0 5 p2) : Ok (f_X2_driverValue S0 fw p1 p2) (fun _ => True) := by
  have e0 : IV 0 10 ((2 : Int32) * p2) := IV_mul rfl (IV_lit (a := 2) (b := 2)) hp2 (by decide) (by decide) (by decide) (by decide) (by decide)
  have e1 : IV 0 11 (((2 : Int32) * p2) + (1 : Int32)) := IV_add rfl e0 (IV_lit (a := 1) (b := 1)) (by decide) (by decide) (by decide) (by decide)
  refine Ok_B (k_X0_part h hp (IV_wk e0 (by decide) (by decide))) (fun r1 h1 => Ok_G (k_in60 h1) (Ok_l ?_))
  refine Ok_B (k_X0_part h hp e1) (fun r2 h2 => Ok_G (k_in60 h2) (Ok_l ?_))
  refine Ok_c (fun _ => ?_) (fun _ => Ok_s trivial)
  refine Ok_B (k_X0_isLow hp p2) (fun r _ => ?_)
  refine Ok_B (P := fun _ => True) (Ok_c (fun _ => Ok_s trivial) (fun _ => Ok_s trivial)) (fun b _ => ?_)
  exact Ok_c (fun _ => Ok_B (k_X2_takenIn _) (fun _ _ => Ok_s trivial)) (fun _ => Ok_s trivial)
theorem k_X2_busValue {S0 : SS} (h : I0 S0) (fw : Nat → Int32) {p1 : Int32} (hp : IV 0 59 p1) (hb : gA S0 4 p1.toNatClampNeg = 1) : Ok (f_X2_busValue S0 fw p1) (fun _ => True) := by
  refine Ok_B (k_X0_size h hp) (fun r hr => ?_)
  refine Ok_F (fun v : Int32 × Int32 => IV 0 6 v.2) (fun v => (6 - v.2.toInt).toNat) (fun v hv => ?_) IV_00 (mz 6)
  obtain ⟨a, v⟩ := v
  refine Ok_c (fun _ => Ok_s trivial) (fun c => ?_)
  have ⟨g1, g2, g3⟩ := k_lp (by decide) hv (hr.2 hb) c
  refine Ok_B (k_X2_driverValue h fw hp g1) (fun r3 h3 => ?_)
  repeat' (first | exact Ok_l (Ok_s (OkI_l g2 g3)) | refine Ok_c (fun _ => ?_) (fun _ => ?_))
theorem k_X2_settle {S0 : SS} (h : I0 S0) (fw : Nat → Int32) : Ok (f_X2_settle S0 fw) (fun _ => True) := by
  refine Ok_F (fun v : Int32 × (Nat → Int32) => IV 0 60 v.1) (fun v => (60 - v.1.toInt).toNat) (fun v hv => ?_) IV_00 (mz 60)
  obtain ⟨v, f⟩ := v
  refine Ok_c (fun _ => Ok_s trivial) (fun c => ?_)
  have ⟨g1, g2, g3⟩ := k_lp (by decide) hv h.1 c
  have g4 := h.2.2.2 v.toNatClampNeg
  refine Ok_G (k_in60 g1) (Ok_l (Ok_G (k_in60 g4) (Ok_c (fun _ => ?_) (fun _ => Ok_c (fun cb => ?_) (fun _ => ?_)))))
  · exact Ok_B (k_X2_gateValue h f g4) (fun _ _ => Ok_l (Ok_l (Ok_s (OkI_l g2 g3))))
  · exact Ok_B (k_X2_busValue h f g4 cb) (fun _ _ => Ok_l (Ok_l (Ok_s (OkI_l g2 g3))))
  · exact Ok_l (Ok_s (OkI_l g2 g3))
theorem k_X2_afterTick {S0 : SS} (h : I0 S0) (fw : Nat → Int32) {p1 : Int32} (hp : IV 0 59 p1) : Ok (f_X2_afterTick S0 fw p1) (fun _ => True) := by
  refine Ok_G (k_in60 hp) (Ok_l (Ok_B (k_X0_part h hp IV_lit) (fun r1 h1 => Ok_G (k_in60 h1) (Ok_B (k_X2_takenIn _) (fun a _ => ?_)))))
  refine Ok_B (k_X0_size h hp) (fun r hr => ?_)
  refine Ok_B (P := fun _ => True) ?_ (fun w _ => ?_)
  · exact Ok_c (fun _ => Ok_s trivial) (fun _ => Ok_B (k_X0_part h hp IV_lit) (fun r1 h1 => Ok_G (k_in60 h1) (Ok_s trivial)))
  · repeat' (first | exact Ok_s trivial | refine Ok_c (fun _ => ?_) (fun _ => ?_))
