/-! the class's reader as a whole, and its face: no throw; what becomes of the tape's length -/
theorem k_X3_linkUses {S3 S0 : SS} (h : I3 S3) (h0 : I0 S0) : Ok (f_X3_linkUses S3 S0) R30 := by
  refine Ok_F (fun v : Int32 × Int32 × SS => IV 0 667 v.2.1 ∧ I0 v.2.2) (fun v => (667 - v.2.1.toInt).toNat) (fun v hv => ?_) ⟨IV_00, h0⟩ (mz 667)
  obtain ⟨a, v, S⟩ := v
  obtain ⟨hv, hS⟩ : IV 0 667 v ∧ I0 S := hv
  refine Ok_c (fun _ => Ok_s ⟨Or.inr rfl, h, hS⟩) (fun c => ?_)
  have ⟨g1, g2, g3⟩ := k_lp (by decide) hv h c
  have bad : ∀ p1 p2 : Int32, Ok (zB (f_X3_failAt S3 p1 p2) (fun ((r24, s3_25) : Int32 × SS) => zG (zb r24) (some (Sum.inr (r24, s3_25, S) : (Int32 × Int32 × SS) ⊕ (Int32 × SS × SS))))) (OkI (fun v : Int32 × Int32 × SS => IV 0 667 v.2.1 ∧ I0 v.2.2) (fun v => (667 - v.2.1.toInt).toNat) R30 (a, v, S)) := by
    intro p1 p2
    refine Ok_B (k_X3_failAt h p1 p2) (fun w hw => ?_)
    obtain ⟨r, T⟩ := w
    exact Ok_G hw.1 (Ok_s ⟨hw.1, hw.2, hS⟩)
  refine Ok_G (IV_in g1 (by decide) (by decide)) (Ok_B (k_X0_find hS _) (fun r15 h15 => Ok_B (k_X3_isHead _) (fun r19 h19 => Ok_c (fun _ => bad _ _) (fun _ => Ok_c (fun _ => Ok_c (fun _ => ?_) (fun _ => ?_)) (fun _ => ?_)))))
  · refine Ok_B (P := fun _ => True) (Ok_c (fun _ => Ok_s trivial) (fun _ => Ok_s trivial)) (fun w _ => ?_)
    exact Ok_B (k_X0_addPart hS _ _) (fun T hT => Ok_l (Ok_s (OkI_l ⟨g2, hT⟩ g3)))
  · refine Ok_B (P := fun _ => True) (Ok_c (fun _ => Ok_s trivial) (fun _ => Ok_s trivial)) (fun w _ => ?_)
    exact Ok_B (k_X0_beginDriver hS _ _) (fun T hT => Ok_l (Ok_s (OkI_l ⟨g2, hT⟩ g3)))
  · refine Ok_B (k_X0_isKind hS _ _) (fun r58 h58 => Ok_c (fun _ => bad _ _) (fun _ => Ok_c (fun _ => ?_) (fun _ => ?_)))
    · refine Ok_B (P := fun _ => True) (Ok_c (fun _ => Ok_s trivial) (fun _ => Ok_s trivial)) (fun w _ => ?_)
      exact Ok_B (k_X0_addPart hS _ _) (fun T hT => Ok_l (Ok_s (OkI_l ⟨g2, hT⟩ g3)))
    · refine Ok_B (P := fun _ => True) (Ok_c (fun _ => Ok_s trivial) (fun _ => Ok_s trivial)) (fun w _ => ?_)
      exact Ok_B (k_X0_beginDriver hS _ _) (fun T hT => Ok_l (Ok_s (OkI_l ⟨g2, hT⟩ g3)))
theorem k_X3_checkLoops {S3 S0 : SS} (h : I3 S3) (h0 : I0 S0) : Ok (f_X3_checkLoops S3 S0) R3 := by
  refine Ok_l (Ok_l (Ok_B (P := I3) ?_ (fun S hS => ?_)))
  · refine Ok_F (fun v : Int32 × SS => IV 0 60 v.1 ∧ I3 v.2) (fun v => (60 - v.1.toInt).toNat) (fun v hv => ?_) ⟨IV_00, h⟩ (mz 60)
    obtain ⟨v, S⟩ := v
    obtain ⟨hv, hS⟩ : IV 0 60 v ∧ I3 S := hv
    refine Ok_c (fun _ => Ok_s hS) (fun c => ?_)
    have ⟨g1, g2, g3⟩ := k_lp (by decide) hv h0.1 c
    refine Ok_B (P := I3) ?_ (fun T hT => Ok_l (Ok_s (OkI_l ⟨g2, hT⟩ g3)))
    refine Ok_F (fun v : Int32 × SS => IV 0 60 v.1 ∧ I3 v.2) (fun v => (60 - v.1.toInt).toNat) (fun v hv => ?_) ⟨IV_00, hS⟩ (mz 60)
    obtain ⟨w, T⟩ := v
    obtain ⟨hw, hT⟩ : IV 0 60 w ∧ I3 T := hv
    refine Ok_c (fun _ => Ok_s hT) (fun c => ?_)
    have ⟨k1, k2, k3⟩ := k_lp (by decide) hw h0.1 c
    exact Ok_G (k_in60 k1) (Ok_c (fun _ => Ok_G (k_in60 g1) (Ok_l (Ok_l (Ok_s (OkI_l ⟨k2, hT⟩ k3))))) (fun _ => Ok_l (Ok_s (OkI_l ⟨k2, hT⟩ k3))))
  · refine Ok_F (fun v : Int32 => IV 0 60 v) (fun v => (60 - v.toInt).toNat) (fun v hv => ?_) IV_00 (mz 60)
    refine Ok_c (fun _ => Ok_s ⟨Or.inr rfl, hS⟩) (fun c => ?_)
    have ⟨g1, g2, g3⟩ := k_lp (by decide) hv h0.1 c
    refine Ok_G (k_in60 g1) (Ok_c (fun _ => Ok_B (k_X3_failAt hS _ _) (fun w hw => ?_)) (fun _ => Ok_l (Ok_s (OkI_l g2 g3))))
    obtain ⟨r, T⟩ := w
    exact Ok_G hw.1 (Ok_s hw)
def R310 (r : Int32 × SS × SS × SS) : Prop := zb r.1 ∧ I3 r.2.1 ∧ I1 r.2.2.1 ∧ I0 r.2.2.2
theorem k_X3_takeTokens {S3 S1 S0 : SS} (h : I3 S3) (h1 : I1 S1) (ft : Nat → Int32) (h0 : I0 S0) : Ok (f_X3_takeTokens S3 S1 ft S0) R310 := by
  refine Ok_l (Ok_B (k_X1_advance h1 ft) (fun T1 hT1 => Ok_S ?_))
  refine Ok_F (fun v : Int32 × SS × SS × SS => IV 0 2000 v.1 ∧ I3 v.2.1 ∧ I1 v.2.2.1 ∧ I0 v.2.2.2) (fun v => (2000 - v.1.toInt).toNat) (fun v hv => ?_) ⟨IV_00, h, hT1, h0⟩ (mz 2000)
  obtain ⟨v, A, B, C⟩ := v
  obtain ⟨hv, hA, hB, hC⟩ : IV 0 2000 v ∧ I3 A ∧ I1 B ∧ I0 C := hv
  have out : OkS (fun ((s3_16, s1_17, s0_18) : SS × SS × SS) => if (gI s3_16 4) = (0 : Int32) then some ((1 : Int32), s3_16, s1_17, s0_18) else zB (f_X3_refuse s3_16 s1_17) (fun ((r20, s3_21) : Int32 × SS) => if r20 = (0 : Int32) then some ((0 : Int32), s3_21, s1_17, s0_18) else some ((1 : Int32), s3_21, s1_17, s0_18))) R310 (Sum.inr (A, B, C)) := by
    refine Ok_c (fun _ => Ok_s ⟨Or.inr rfl, hA, hB, hC⟩) (fun _ => Ok_B (k_X3_refuse hA B) (fun w hw => ?_))
    obtain ⟨r, T⟩ := w
    exact Ok_c (fun _ => Ok_s ⟨Or.inl rfl, hw.2, hB, hC⟩) (fun _ => Ok_s ⟨Or.inr rfl, hw.2, hB, hC⟩)
  refine Ok_c (fun _ => Ok_s out) (fun c => Ok_c (fun _ => Ok_s out) (fun _ => ?_))
  have ⟨g1, g2, g3⟩ := k_lp (n := 2000) (by decide) hv (IV_lit (a := 0) (b := 2000)) c
  refine Ok_B (k_X3_step hA B hC) (fun w hw => ?_)
  obtain ⟨r, T3, T0⟩ := w
  refine Ok_c (fun _ => Ok_s ⟨Or.inl rfl, hw.2.1, hB, hw.2.2⟩) (fun _ => ?_)
  exact Ok_B (k_X1_advance hB ft) (fun D hD => Ok_l (Ok_s (OkI_l ⟨g2, hw.2.1, hD, hw.2.2⟩ g3)))
theorem k_X3_readInto {S3 S1 S0 : SS} (ft : Nat → Int32) (h0 : I0 S0) {p3 : Int32} (hp : IV 0 2000 p3) : Ok (f_X3_readInto S3 S1 ft S0 p3) R310 := by
  refine Ok_B (k_X0_clear h0) (fun T0 hT0 => Ok_l (Ok_l (Ok_l (Ok_B (k_X1_begin ft hp) (fun T1 hT1 => ?_)))))
  refine Ok_B (k_X3_takeTokens (S3 := sI (sI (sI S3 0 0) 1 (-1)) 15 0) IV_00 hT1 ft hT0) (fun w hw => ?_)
  obtain ⟨r, A, B, C⟩ := w
  obtain ⟨q1, q2, q3, q4⟩ := hw
  refine Ok_c (fun _ => Ok_s ⟨Or.inl rfl, q2, q3, q4⟩) (fun _ => Ok_B (k_X3_linkUses q2 q4) (fun w hw => ?_))
  obtain ⟨r2, A2, C2⟩ := w
  obtain ⟨q5, q6, q7⟩ := hw
  refine Ok_c (fun _ => Ok_s ⟨Or.inl rfl, q6, q3, q7⟩) (fun _ => Ok_B (k_X3_checkLoops q6 q7) (fun w hw => ?_))
  obtain ⟨r3, A3⟩ := w
  refine Ok_c (fun _ => Ok_s ⟨Or.inl rfl, hw.2, q3, q7⟩) (fun _ => Ok_B (k_X0_arrange q7) (fun C3 hC3 => Ok_s ⟨Or.inr rfl, hw.2, q3, hC3⟩))
/-! the face -/
theorem k_X6_addToTape {S6 : SS} (h : IV 0 1996 (gI S6 1)) (p1 : Int32) : Ok (f_X6_addToTape S6 p1) (fun S => (gI S 1).toInt = (gI S6 1).toInt + 4) := by
  refine Ok_F (fun v : Int32 × SS => IV (-8) 24 v.1 ∧ 8 * ((gI v.2 1).toInt - (gI S6 1).toInt) = 24 - v.1.toInt) (fun v => (v.1.toInt + 8).toNat) (fun v hv => ?_) ⟨(show IV (-8) 24 (24 : Int32) from IV_lit), ?_⟩ ?_
  · obtain ⟨v, S⟩ := v
    obtain ⟨hv, e⟩ : IV (-8) 24 v ∧ 8 * ((gI S 1).toInt - (gI S6 1).toInt) = 24 - v.toInt := hv
    have t0 : (0 : Int32).toInt = 0 := by decide
    have t1 : (1 : Int32).toInt = 1 := by decide
    have t8 : (Int32.ofInt (-8)).toInt = -8 := by decide
    have t2 : (2000 : Int32).toInt = 2000 := by decide
    obtain ⟨a1, a2⟩ := h
    obtain ⟨b1, b2⟩ := hv
    refine Ok_c (fun c => Ok_s ?_) (fun c => Ok_c (fun c2 => ?_) (fun c2 => ?_))
    · rw [ti_lt, t0] at c
      show (gI S 1).toInt = (gI S6 1).toInt + 4
      omega
    · rw [ti_lt, t0] at c
      rw [ti_le, t2] at c2
      exact absurd c2 (by omega)
    · rw [ti_lt, t0] at c
      rw [ti_le, t2] at c2
      have e1 : (gI S 1 + (1 : Int32)).toInt = (gI S 1).toInt + 1 := by rw [ti_add (by rw [t1]; omega) (by rw [t1]; omega), t1]
      have e2 : (v + Int32.ofInt (-8)).toInt = v.toInt - 8 := by rw [ti_add (by rw [t8]; omega) (by rw [t8]; omega), t8]; omega
      refine Ok_G (ti_in (by omega) (by omega)) (Ok_l (Ok_l (Ok_l (Ok_s (OkI_l ⟨⟨by rw [e2]; omega, by rw [e2]; omega⟩, ?_⟩ ?_)))))
      · show 8 * ((gI S 1 + (1 : Int32)).toInt - (gI S6 1).toInt) = 24 - (v + Int32.ofInt (-8)).toInt
        rw [e1, e2]
        omega
      · show ((v + Int32.ofInt (-8)).toInt + 8).toNat < (v.toInt + 8).toNat
        rw [e2]
        omega
  · show 8 * ((gI S6 1).toInt - (gI S6 1).toInt) = 24 - (24 : Int32).toInt
    have : (24 : Int32).toInt = 24 := by decide
    omega
  · show ((24 : Int32).toInt + 8).toNat < 10000
    decide
def I6 (S : SS) : Prop := IV 0 2000 (gI S 1)
/-- feed: NONE and nothing, or 20 more and how many -/
theorem k_X6_feed {S6 : SS} (h : I6 S6) (p1 p2 p3 p4 p5 : Int32) : Ok (f_X6_feed S6 p1 p2 p3 p4 p5) (fun r => if (gI S6 1).toInt + 20 ≤ 2000 then (gI r.2 1).toInt = (gI S6 1).toInt + 20 ∧ r.1 = gI r.2 1 else r.1 = -1 ∧ gI r.2 1 = gI S6 1) := by
  obtain ⟨a1, a2⟩ := h
  have t20 : (20 : Int32).toInt = 20 := by decide
  have t2 : (2000 : Int32).toInt = 2000 := by decide
  have e : (gI S6 1 + (20 : Int32)).toInt = (gI S6 1).toInt + 20 := by rw [ti_add (by rw [t20]; omega) (by rw [t20]; omega), t20]
  refine Ok_c (fun c => ?_) (fun c => Ok_s ?_)
  · rw [ti_le, e, t2] at c
    refine Ok_B (k_X6_addToTape ⟨a1, by omega⟩ p1) (fun A hA => Ok_B (k_X6_addToTape ⟨by omega, by omega⟩ p2) (fun B hB => Ok_B (k_X6_addToTape ⟨by omega, by omega⟩ p3) (fun C hC => Ok_B (k_X6_addToTape ⟨by omega, by omega⟩ p4) (fun D hD => Ok_B (k_X6_addToTape ⟨by omega, by omega⟩ p5) (fun E hE => Ok_s ?_)))))
    rw [if_pos c]
    refine ⟨?_, rfl⟩
    show (gI E 1).toInt = (gI S6 1).toInt + 20
    omega
  · rw [ti_le, e, t2] at c
    rw [if_neg c]
    exact ⟨rfl, rfl⟩
/-- end: n, or NONE and nothing -/
theorem k_X6_end {S6 : SS} (h : I6 S6) (p1 : Int32) : Ok (f_X6_end S6 p1) (fun r => if 0 ≤ p1.toInt ∧ p1.toInt ≤ (gI S6 1).toInt then gI r.2 1 = p1 ∧ r.1 = p1 else r.1 = -1 ∧ gI r.2 1 = gI S6 1) := by
  have t0 : (0 : Int32).toInt = 0 := by decide
  refine Ok_c (fun c => Ok_s ?_) (fun c => Ok_c (fun c2 => Ok_l (Ok_s ?_)) (fun c2 => Ok_s ?_))
  · rw [ti_lt, t0] at c
    rw [if_neg (by omega)]
    exact ⟨rfl, rfl⟩
  · rw [ti_lt, t0] at c
    rw [ti_le] at c2
    rw [if_pos ⟨by omega, by omega⟩]
    exact ⟨rfl, rfl⟩
  · rw [ti_le] at c2
    rw [if_neg (by omega)]
    exact ⟨rfl, rfl⟩
theorem k_X6_fault (S6 S3 : SS) (p1 : Int32) : Ok (f_X6_fault S6 S3 p1) (fun _ => True) := Ok_c (fun _ => Ok_s trivial) (fun _ => Ok_c (fun _ => Ok_s trivial) (fun _ => Ok_s trivial))
theorem k_X6_settleValues (S6 : SS) {S0 : SS} (h0 : I0 S0) : Ok (f_X6_settleValues S6 S0) (fun S => gI S 1 = gI S6 1) := Ok_B (k_X2_settle h0 _) (fun _ _ => Ok_l (Ok_l (Ok_s rfl)))
theorem k_X6_named (S6 : SS) {S0 : SS} (h0 : I0 S0) (p1 : Int64) : Ok (f_X6_named S6 S0 p1) (fun _ => True) := by
  refine Ok_B (P := fun _ => True) ?_ (fun v _ => Ok_B (k_X0_find h0 v) (fun _ _ => Ok_s trivial))
  refine Ok_F (fun v : Int64 × Int32 => IV (-8) 56 v.2) (fun v => (v.2.toInt + 8).toNat) (fun v hv => ?_) IV_lit (by decide)
  obtain ⟨a, v⟩ := v
  obtain ⟨b1, b2⟩ : IV (-8) 56 v := hv
  have t0 : (0 : Int32).toInt = 0 := by decide
  have t8 : (Int32.ofInt (-8)).toInt = -8 := by decide
  refine Ok_c (fun _ => Ok_s trivial) (fun c => Ok_l ?_)
  rw [ti_lt, t0] at c
  have e2 : (v + Int32.ofInt (-8)).toInt = v.toInt - 8 := by rw [ti_add (by rw [t8]; omega) (by rw [t8]; omega), t8]; omega
  have e3 : IV (-8) 56 (v + Int32.ofInt (-8)) := ⟨by rw [e2]; omega, by rw [e2]; omega⟩
  have e4 : ((v + Int32.ofInt (-8)).toInt + 8).toNat < (v.toInt + 8).toNat := by rw [e2]; omega
  exact Ok_c (fun _ => Ok_l (Ok_s (OkI_l e3 e4))) (fun _ => Ok_l (Ok_l (Ok_s (OkI_l e3 e4))))
theorem k_X6_node (S6 : SS) {S0 : SS} (h0 : I0 S0) (p1 p2 : Int32) : Ok (f_X6_node S6 S0 p1 p2) (fun _ => True) := by
  refine Ok_B (k_X0_has h0 p1) (fun r hr => Ok_c (fun _ => Ok_s trivial) (fun c => ?_))
  have g := (hr.2 c).1
  refine Ok_c (fun _ => Ok_G (k_in60 g) (Ok_s trivial)) (fun _ => Ok_c (fun _ => Ok_B (k_X0_size h0 g) (fun _ _ => Ok_s trivial)) (fun _ => Ok_c (fun _ => Ok_G (k_in60 g) (Ok_s trivial)) (fun _ => Ok_c (fun _ => Ok_G (k_in60 g) (Ok_s trivial)) (fun _ => Ok_s trivial))))
theorem k_X6_set (S6 : SS) {S0 : SS} (h0 : I0 S0) (p1 p2 : Int32) : Ok (f_X6_set S6 S0 p1 p2) (fun r => gI r.2 1 = gI S6 1) := by
  refine Ok_B (k_X0_isKind h0 p1 0) (fun r hr => Ok_c (fun _ => Ok_s rfl) (fun c => Ok_c (fun _ => Ok_s rfl) (fun _ => Ok_c (fun _ => ?_) (fun _ => Ok_s rfl))))
  exact Ok_G (k_in60 (hr.2 c).1) (Ok_l (Ok_B (k_X6_settleValues _ h0) (fun S hS => Ok_s hS)))
theorem k_X6_load (S6 : SS) {S0 : SS} (h0 : I0 S0) (p1 p2 : Int32) : Ok (f_X6_load S6 S0 p1 p2) (fun r => gI r.2 1 = gI S6 1) := by
  refine Ok_B (k_X0_isKind h0 p1 3) (fun r hr => Ok_c (fun _ => Ok_s rfl) (fun c => Ok_c (fun _ => Ok_s rfl) (fun _ => Ok_c (fun _ => ?_) (fun _ => Ok_s rfl))))
  exact Ok_G (k_in60 (hr.2 c).1) (Ok_l (Ok_B (k_X6_settleValues _ h0) (fun S hS => Ok_s hS)))
theorem k_X6_value (S6 : SS) {S0 : SS} (h0 : I0 S0) (p1 : Int32) : Ok (f_X6_value S6 S0 p1) (fun _ => True) := Ok_B (k_X0_has h0 p1) (fun r hr => Ok_c (fun _ => Ok_s trivial) (fun c => Ok_G (k_in60 (hr.2 c).1) (Ok_s trivial)))
theorem k_X6_tick (S6 : SS) {S0 : SS} (h0 : I0 S0) : Ok (f_X6_tick S6 S0) (fun r => gI r.2 1 = gI S6 1) := by
  refine Ok_B (P := fun S => gI S 1 = gI S6 1) ?_ (fun S hS => Ok_B (P := fun r : Int32 × SS => gI r.2 1 = gI S6 1) ?_ (fun w hw => ?_))
  · refine Ok_F (fun v : Int32 × SS => IV 0 60 v.1 ∧ gI v.2 1 = gI S6 1) (fun v => (60 - v.1.toInt).toNat) (fun v hv => ?_) ⟨IV_00, rfl⟩ (mz 60)
    obtain ⟨v, S⟩ := v
    obtain ⟨hv, hS⟩ : IV 0 60 v ∧ gI S 1 = gI S6 1 := hv
    refine Ok_c (fun _ => Ok_s hS) (fun c => ?_)
    have ⟨g1, g2, g3⟩ := k_lp (by decide) hv h0.1 c
    refine Ok_G (k_in60 g1) (Ok_B (P := fun _ => True) (Ok_c (fun _ => Ok_B (k_X2_afterTick h0 _ g1) (fun _ _ => Ok_s trivial)) (fun _ => Ok_s trivial)) (fun w _ => Ok_l (Ok_l (Ok_s (OkI_l ⟨g2, hS⟩ g3)))))
  · refine Ok_F (fun v : Int32 × Int32 × SS => IV 0 60 v.2.1 ∧ gI v.2.2 1 = gI S6 1) (fun v => (60 - v.2.1.toInt).toNat) (fun v hv => ?_) ⟨IV_00, hS⟩ (mz 60)
    obtain ⟨a, v, S⟩ := v
    obtain ⟨hv, hS⟩ : IV 0 60 v ∧ gI S 1 = gI S6 1 := hv
    refine Ok_c (fun _ => Ok_s hS) (fun c => ?_)
    have ⟨g1, g2, g3⟩ := k_lp (by decide) hv h0.1 c
    exact Ok_G (k_in60 g1) (Ok_c (fun _ => Ok_l (Ok_s (OkI_l ⟨g2, hS⟩ g3))) (fun _ => Ok_l (Ok_l (Ok_l (Ok_s (OkI_l ⟨g2, hS⟩ g3))))))
  · obtain ⟨r, S⟩ := w
    have hw : gI S 1 = gI S6 1 := hw
    exact Ok_B (k_X6_settleValues S h0) (fun T hT => Ok_s (hT.trans hw))
theorem k_X6_countFree (S6 : SS) {S0 : SS} (h0 : I0 S0) : Ok (f_X6_countFree S6 S0) (fun r => IV 0 60 r) := by
  refine Ok_F (fun v : Int32 × Int32 => IV 0 60 v.2 ∧ IV 0 60 v.1 ∧ v.1.toInt ≤ v.2.toInt) (fun v => (60 - v.2.toInt).toNat) (fun v hv => ?_) ⟨IV_00, IV_00, Int.le_refl _⟩ (mz 60)
  obtain ⟨a, v⟩ := v
  obtain ⟨hv, ha, hav⟩ : IV 0 60 v ∧ IV 0 60 a ∧ a.toInt ≤ v.toInt := hv
  refine Ok_c (fun _ => Ok_s ha) (fun c => ?_)
  have ⟨g1, g2, g3, g4, g5⟩ := lp_up (by decide) hv h0.1.2 c
  have ea : IV 0 59 a := ⟨ha.1, by have := g1.2; omega⟩
  have e1 : (a + (1 : Int32)).toInt = a.toInt + 1 := IV_step rfl ea (by decide) (by decide) (by decide)
  have e2 : IV 0 60 (a + (1 : Int32)) := IV_add rfl ea (IV_lit (a := 1) (b := 1)) (by decide) (by decide) (by decide) (by decide)
  have u1 : a.toInt ≤ (v + 1).toInt := by omega
  have u2 : (a + 1).toInt ≤ (v + 1).toInt := by omega
  refine Ok_B (k_X0_isSource h0 v) (fun r hr => Ok_c (fun _ => Ok_l (Ok_s (OkI_l ⟨g2, ha, u1⟩ g3))) (fun _ => Ok_G (k_in60 g1) ?_))
  exact Ok_c (fun _ => Ok_l (Ok_s (OkI_l ⟨g2, ha, u1⟩ g3))) (fun _ => Ok_l (Ok_l (Ok_s (OkI_l ⟨g2, e2, u2⟩ g3))))
theorem k_X6_worlds (S6 : SS) {S0 : SS} (h0 : I0 S0) : Ok (f_X6_worlds S6 S0) (fun _ => True) := Ok_B (k_X6_countFree S6 h0) (fun _ _ => Ok_c (fun _ => Ok_s trivial) (fun _ => Ok_s trivial))
theorem k_X6_settleWith6 (S6 : SS) {S0 : SS} (h0 : I0 S0) {p2 : Int32} (hp : IV 0 59 p2) (p3 : Int32) : Ok (f_X6_settleWith6 S6 S0 p2 p3) (fun S => gI S 1 = gI S6 1) := Ok_l (Ok_G (k_in60 hp) (Ok_l (Ok_B (k_X2_settle h0 _) (fun _ _ => Ok_l (Ok_s rfl)))))
theorem k_X6_settleWith7 (S6 : SS) {S0 : SS} (h0 : I0 S0) {p2 : Int32} (hp : IV 0 59 p2) (p3 : Int32) : Ok (f_X6_settleWith7 S6 S0 p2 p3) (fun S => gI S 1 = gI S6 1) := Ok_l (Ok_G (k_in60 hp) (Ok_l (Ok_B (k_X2_settle h0 _) (fun _ _ => Ok_l (Ok_s rfl)))))
theorem k_X6_flicker (S6 : SS) {S0 : SS} (h0 : I0 S0) (p1 p2 : Int32) : Ok (f_X6_flicker S6 S0 p1 p2) (fun r => gI r.2 1 = gI S6 1) := by
  refine Ok_B (k_X0_isKind h0 p1 0) (fun r hr => Ok_c (fun _ => Ok_s rfl) (fun c => ?_))
  have g := (hr.2 c).1
  refine Ok_G (k_in60 g) (Ok_c (fun _ => Ok_s rfl) (fun _ => Ok_c (fun _ => ?_) (fun _ => Ok_s rfl)))
  refine Ok_B (k_X6_settleWith6 S6 h0 g _) (fun A hA => Ok_B (k_X6_settleWith7 A h0 g _) (fun B hB => ?_))
  refine Ok_F (fun v : Int32 × Int32 => IV 0 60 v.2) (fun v => (60 - v.2.toInt).toNat) (fun v hv => ?_) IV_00 (mz 60)
  obtain ⟨a, v⟩ := v
  refine Ok_c (fun _ => Ok_s (hB.trans hA)) (fun c => ?_)
  have ⟨g1, g2, g3⟩ := k_lp (by decide) hv h0.1 c
  refine Ok_G (k_in60 g1) ?_
  repeat' (first | exact Ok_l (Ok_s (OkI_l g2 g3)) | exact Ok_s (hB.trans hA) | exact Ok_l (Ok_l (Ok_s (OkI_l g2 g3))) | refine Ok_c (fun _ => ?_) (fun _ => ?_))
theorem k_X6_goThroughWorlds (S6 : SS) {S0 : SS} (h0 : I0 S0) (S5 : SS) : Ok (f_X6_goThroughWorlds S6 S0 S5) (fun r => gI r.2.1 1 = gI S6 1) := by
  refine Ok_B (k_X6_countFree S6 h0) (fun r hr => Ok_c (fun c => Ok_c (fun _ => ?_) (fun _ => Ok_s rfl)) (fun _ => Ok_s rfl))
  have h12 : IV 0 12 r := IV_le_l c hr (IV_lit (a := 12) (b := 12)) (by decide) (by decide)
  exact Ok_B (k_X5_goThrough S5 h0 _ h12) (fun _ _ => Ok_l (Ok_s rfl))
theorem k_X6_legal (S6 : SS) {S0 : SS} (h0 : I0 S0) (S5 : SS) : Ok (f_X6_legal S6 S0 S5) (fun r => gI r.2.1 1 = gI S6 1) := by
  refine Ok_B (k_X6_goThroughWorlds S6 h0 S5) (fun w hw => ?_)
  obtain ⟨r, A, B⟩ := w
  exact Ok_c (fun _ => Ok_s hw) (fun _ => Ok_s hw)
theorem k_X6_sharp (S6 : SS) {S0 : SS} (h0 : I0 S0) (S5 : SS) (p1 : Int32) : Ok (f_X6_sharp S6 S0 S5 p1) (fun r => gI r.2.1 1 = gI S6 1) := by
  refine Ok_B (k_X6_goThroughWorlds S6 h0 S5) (fun w hw => ?_)
  obtain ⟨r, A, B⟩ := w
  refine Ok_c (fun _ => Ok_s hw) (fun _ => Ok_B (k_X0_has h0 p1) (fun _ _ => Ok_c (fun _ => Ok_s hw) (fun _ => ?_)))
  exact Ok_B (k_X5_sharpValue B p1) (fun _ _ => Ok_s hw)
theorem k_X6_gainsaid (S6 : SS) {S0 : SS} (h0 : I0 S0) (S5 : SS) : Ok (f_X6_gainsaid S6 S0 S5) (fun r => gI r.2.1 1 = gI S6 1) := by
  refine Ok_B (k_X6_goThroughWorlds S6 h0 S5) (fun w hw => ?_)
  obtain ⟨r, A, B⟩ := w
  refine Ok_c (fun _ => Ok_s hw) (fun _ => ?_)
  refine Ok_F (fun v : Int32 => IV 0 60 v) (fun v => (60 - v.toInt).toNat) (fun v hv => ?_) IV_00 (mz 60)
  refine Ok_c (fun _ => Ok_s hw) (fun c => ?_)
  have ⟨g1, g2, g3⟩ := k_lp (by decide) hv h0.1 c
  refine Ok_G (k_in60 g1) (Ok_c (fun _ => Ok_l (Ok_s (OkI_l g2 g3))) (fun _ => Ok_B (k_X5_isEver B _ _) (fun _ _ => ?_)))
  exact Ok_c (fun _ => Ok_l (Ok_s (OkI_l g2 g3))) (fun _ => Ok_s hw)
theorem k_X6_wheel (S6 : SS) {S0 S4 : SS} (h0 : I0 S0) (h4 : I4 S4) : Ok (f_X6_wheel S6 S0 S4) (fun r => r.1 = 1 ∧ gI r.2.1 1 = gI S6 1 ∧ I4 r.2.2) := Ok_B (k_X4_begin h4 h0 _) (fun S hS => Ok_l (Ok_s ⟨rfl, rfl, hS⟩))
theorem k_X6_put (S6 : SS) {S0 S4 : SS} (h0 : I0 S0) (h4 : I4 S4) (p1 p2 : Int32) : Ok (f_X6_put S6 S0 S4 p1 p2) (fun r => I4 r.2) := by
  refine Ok_c (fun _ => Ok_s h4) (fun _ => Ok_B (k_X0_isKind h0 p1 0) (fun r hr => Ok_c (fun _ => Ok_s h4) (fun c => Ok_c (fun _ => Ok_s h4) (fun _ => Ok_c (fun _ => ?_) (fun _ => Ok_s h4)))))
  refine Ok_B (k_X4_change h4 (hr.2 c).1 p2) (fun w hw => ?_)
  obtain ⟨r2, S⟩ := w
  exact Ok_s hw
theorem k_X6_run (S6 : SS) {S0 S4 : SS} (h0 : I0 S0) (h4 : I4 S4) (p1 : Int32) : Ok (f_X6_run S6 S0 S4 p1) (fun r => I4 r.2) := by
  refine Ok_c (fun _ => Ok_s h4) (fun _ => Ok_c (fun _ => Ok_s h4) (fun c => Ok_c (fun c2 => ?_) (fun _ => Ok_s h4)))
  have h1 : IV 0 2147483647 p1 := IV_nlt_l c (IV_top p1) (IV_lit (a := 0) (b := 0)) (by decide) (by decide)
  have h2 : IV 0 1000 p1 := IV_le_l c2 h1 (IV_lit (a := 1000) (b := 1000)) (by decide) (by decide)
  refine Ok_B (k_X4_turn h4 h0 h2) (fun w hw => ?_)
  obtain ⟨r2, S⟩ := w
  exact Ok_s hw
theorem k_X6_on (S6 S4 : SS) {S0 : SS} (h0 : I0 S0) (p1 : Int32) : Ok (f_X6_on S6 S0 S4 p1) (fun _ => True) := Ok_c (fun _ => Ok_s trivial) (fun _ => Ok_B (k_X0_has h0 p1) (fun r hr => Ok_c (fun _ => Ok_s trivial) (fun c => Ok_G (k_in60 (hr.2 c).1) (Ok_s trivial))))
theorem k_X6_wave (S6 : SS) {S0 S4 : SS} (h0 : I0 S0) (h4 : I4 S4) (p1 p2 : Int32) : Ok (f_X6_wave S6 S0 S4 p1 p2) (fun _ => True) := Ok_c (fun _ => Ok_s trivial) (fun _ => Ok_B (k_X0_has h0 p1) (fun r hr => Ok_c (fun _ => Ok_s trivial) (fun c => Ok_B (k_X4_changeOf h4 (hr.2 c).1 p2) (fun _ _ => Ok_s trivial))))
theorem k_X6_about (S6 S4 : SS) {S0 : SS} (h0 : I0 S0) (p1 : Int32) : Ok (f_X6_about S6 S0 S4 p1) (fun _ => True) := by
  unfold f_X6_about
  repeat' (first | exact Ok_s trivial | exact Ok_B (k_X4_quiet S4) (fun _ _ => Ok_s trivial) | exact Ok_B (k_X6_countFree S6 h0) (fun _ _ => Ok_s trivial) | refine Ok_c (fun _ => ?_) (fun _ => ?_))
theorem k_X6_read {S6 S3 S1 S0 S8 : SS} (h6 : I6 S6) (h8 : I0 S8) : Ok (f_X6_read S6 S3 S1 S0 S8) (fun r => gI r.2.2.1 1 = 0 ∧ I3 r.2.2.2.1 ∧ I1 r.2.2.2.2.1 ∧ I0 r.2.2.2.2.2) := by
  refine Ok_L (fun v1 e1 => Ok_l (Ok_B (k_X3_readInto _ h8 (by rw [e1]; exact h6)) (fun w hw => ?_)))
  obtain ⟨r, A, B, C⟩ := w
  obtain ⟨q1, q2, q3, q4⟩ := hw
  refine Ok_c (fun _ => Ok_s ⟨rfl, q2, q3, q4⟩) (fun _ => Ok_B (P := fun S => gI S 1 = 0) ?_ (fun S hS => Ok_l (Ok_B (k_X6_settleValues _ q4) (fun T hT => Ok_s ⟨hT.trans hS, q2, q3, q4⟩))))
  refine Ok_F (fun v : Int32 × SS => IV 0 60 v.1 ∧ gI v.2 1 = 0) (fun v => (60 - v.1.toInt).toNat) (fun v hv => ?_) ⟨IV_00, rfl⟩ (mz 60)
  obtain ⟨v, S⟩ := v
  obtain ⟨hv, hS⟩ : IV 0 60 v ∧ gI S 1 = 0 := hv
  refine Ok_c (fun _ => Ok_s hS) (fun c => ?_)
  have ⟨g1, g2, g3⟩ := k_lp (by decide) hv q4.1 c
  exact Ok_G (k_in60 g1) (Ok_l (Ok_l (Ok_s (OkI_l ⟨g2, hS⟩ g3))))
