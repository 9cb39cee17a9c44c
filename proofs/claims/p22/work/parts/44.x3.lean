/-! the class's reader: no throw -/
def I3 (S : SS) : Prop := IV 0 667 (gI S 15)
def R3 (r : Int32 × SS) : Prop := zb r.1 ∧ I3 r.2
theorem k_X3_isHead (p1 : Int32) : Ok (f_X3_isHead p1) zb := Ok_c (fun _ => Ok_s (Or.inr rfl)) (fun _ => Ok_c (fun _ => Ok_s (Or.inr rfl)) (fun _ => Ok_s (Or.inl rfl)))
theorem k_X3_go {S3 : SS} (h : I3 S3) (p1 : Int32) : Ok (f_X3_go S3 p1) R3 := Ok_l (Ok_s ⟨Or.inr rfl, h⟩)
theorem Ok_r3 {x : Option (Int32 × SS)} {k : Int32 × SS → Option (Int32 × SS)} (h : Ok x R3) (hk : ∀ r S, k (r, S) = zG (zb r) (some (r, S))) : Ok (zB x k) R3 := by
  refine Ok_B h (fun w hw => ?_)
  obtain ⟨r, S⟩ := w
  rw [hk]
  exact Ok_G hw.1 (Ok_s hw)
theorem k_X3_beginTelling {S3 : SS} (h : I3 S3) (p1 : Int32) : Ok (f_X3_beginTelling S3 p1) R3 := Ok_l (Ok_r3 (k_X3_go (S3 := sI S3 5 p1) h 1) (fun _ _ => rfl))
theorem k_X3_failAt {S3 : SS} (h : I3 S3) (p1 p2 : Int32) : Ok (f_X3_failAt S3 p1 p2) R3 := Ok_l (Ok_l (Ok_s ⟨Or.inl rfl, h⟩))
theorem k_X3_beginParts {S3 : SS} (h : I3 S3) (p1 p2 p3 : Int32) : Ok (f_X3_beginParts S3 p1 p2 p3) R3 := Ok_l (Ok_l (Ok_l (Ok_l (Ok_r3 (k_X3_go (S3 := sI (sI (sI (sI S3 8 p1) 10 p2) 11 p3) 9 0) h 6) (fun _ _ => rfl)))))
theorem k_X3_addUse {S3 : SS} (h : I3 S3) (p1 : Int64) (p2 p3 : Int32) : Ok (f_X3_addUse S3 p1 p2 p3) I3 := by
  refine Ok_c (fun c => ?_) (fun _ => Ok_s h)
  have hc : IV 0 666 (gI S3 15) := IV_lt_l c h (IV_lit (a := 667) (b := 667)) (by decide) (by decide)
  have hv : vp_in (gI S3 15) 667 := IV_in hc (by decide) (by decide)
  have e1 : IV 0 667 (gI S3 15 + (1 : Int32)) := IV_add rfl hc (IV_lit (a := 1) (b := 1)) (by decide) (by decide) (by decide) (by decide)
  exact Ok_G hv (Ok_l (Ok_G hv (Ok_l (Ok_G hv (Ok_l (Ok_l (Ok_s e1)))))))
theorem k_X3_isWord (S3 S1 : SS) (p1 : Int64) : Ok (f_X3_isWord S3 S1 p1) zb := Ok_c (fun _ => Ok_c (fun _ => Ok_s (Or.inr rfl)) (fun _ => Ok_s (Or.inl rfl))) (fun _ => Ok_s (Or.inl rfl))
theorem k_X3_gateHere (S3 S1 : SS) : Ok (f_X3_gateHere S3 S1) (fun r => IV (-1) 8 r ∧ (r ≠ -1 → IV 0 8 r)) := by
  refine Ok_F (fun v : Int32 => IV 0 9 v) (fun v => (9 - v.toInt).toNat) (fun v hv => ?_) IV_00 (mz 9)
  refine Ok_c (fun c => Ok_s ⟨IV_lit, fun q => absurd rfl q⟩) (fun c => Ok_c (fun _ => ?_) (fun _ => Ok_s ⟨IV_lit, fun q => absurd rfl q⟩))
  have ⟨g1, g2, g3⟩ := k_lp (n := 9) (by decide) hv (IV_lit (a := 0) (b := 9)) c
  exact Ok_G (IV_in g1 (by decide) (by decide)) (Ok_c (fun _ => Ok_s ⟨IV_wk g1 (by decide) (by decide), fun _ => g1⟩) (fun _ => Ok_l (Ok_s (OkI_l g2 g3))))
theorem k_X3_isName (S3 S1 : SS) : Ok (f_X3_isName S3 S1) zb := by
  refine Ok_c (fun _ => ?_) (fun _ => Ok_s (Or.inl rfl))
  refine Ok_B (k_X3_gateHere S3 S1) (fun r _ => Ok_c (fun _ => Ok_l ?_) (fun _ => Ok_s (Or.inl rfl)))
  repeat' (first | exact Ok_s (Or.inr rfl) | exact Ok_s (Or.inl rfl) | refine Ok_c (fun _ => ?_) (fun _ => ?_))
theorem k_X3_refuse {S3 : SS} (h : I3 S3) (S1 : SS) : Ok (f_X3_refuse S3 S1) R3 := Ok_B (P := fun _ => True) (Ok_c (fun _ => Ok_s trivial) (fun _ => Ok_s trivial)) (fun v _ => Ok_r3 (k_X3_failAt h v _) (fun _ _ => rfl))
theorem k_X3_endLine {S3 : SS} (h : I3 S3) (S1 : SS) : Ok (f_X3_endLine S3 S1) R3 := Ok_c (fun _ => Ok_r3 (k_X3_go h 0) (fun _ _ => rfl)) (fun _ => Ok_r3 (k_X3_refuse h S1) (fun _ _ => rfl))
theorem k_X3_beginLine {S3 : SS} (h : I3 S3) (S1 : SS) : Ok (f_X3_beginLine S3 S1) R3 := by
  refine Ok_B (k_X3_isWord S3 S1 _) (fun _ _ => Ok_c (fun _ => ?_) (fun _ => Ok_r3 (k_X3_beginTelling h 0) (fun _ _ => rfl)))
  refine Ok_B (k_X3_isWord S3 S1 _) (fun _ _ => Ok_c (fun _ => ?_) (fun _ => Ok_r3 (k_X3_beginTelling h 1) (fun _ _ => rfl)))
  refine Ok_B (k_X3_isWord S3 S1 _) (fun _ _ => Ok_c (fun _ => ?_) (fun _ => Ok_r3 (k_X3_beginTelling h 3) (fun _ _ => rfl)))
  refine Ok_B (k_X3_isName S3 S1) (fun _ _ => Ok_c (fun _ => Ok_r3 (k_X3_refuse h S1) (fun _ _ => rfl)) (fun _ => Ok_l (Ok_l ?_)))
  exact Ok_r3 (k_X3_go (S3 := sI (sL S3 6 (gL S1 5)) 7 (gI S1 4)) h 3) (fun _ _ => rfl)
theorem k_X3_takeDriver {S3 : SS} (h : I3 S3) (S1 : SS) : Ok (f_X3_takeDriver S3 S1) R3 := by
  have q : ∀ r : Int32, Ok (zB (if r = (0 : Int32) then some (-1 : Int32) else some (-2 : Int32)) (fun (v43 : Int32) => zB (f_X3_addUse S3 (gL S3 6) (gI S3 7) v43) (fun (s3_44 : SS) => zB (f_X3_beginParts s3_44 (-3 : Int32) (2 : Int32) (2 : Int32)) (fun ((r48, s3_49) : Int32 × SS) => zG (zb r48) (some (r48, s3_49)))))) R3 := by
    intro r
    refine Ok_B (P := fun _ => True) (Ok_c (fun _ => Ok_s trivial) (fun _ => Ok_s trivial)) (fun v _ => ?_)
    exact Ok_B (k_X3_addUse h _ _ v) (fun S hS => Ok_r3 (k_X3_beginParts hS _ _ _) (fun _ _ => rfl))
  refine Ok_B (k_X3_isWord S3 S1 _) (fun _ _ => Ok_c (fun _ => ?_) (fun _ => ?_))
  · refine Ok_B (k_X3_isWord S3 S1 _) (fun _ _ => Ok_c (fun _ => Ok_r3 (k_X3_refuse h S1) (fun _ _ => rfl)) (fun _ => ?_))
    exact Ok_B (k_X3_isWord S3 S1 _) (fun r _ => q r)
  · exact Ok_B (k_X3_isWord S3 S1 _) (fun r _ => q r)
theorem k_X3_takePart {S3 : SS} (h : I3 S3) (S1 : SS) : Ok (f_X3_takePart S3 S1) R3 := by
  refine Ok_B (k_X3_isName S3 S1) (fun _ _ => Ok_c (fun _ => Ok_r3 (k_X3_refuse h S1) (fun _ _ => rfl)) (fun _ => Ok_c (fun _ => ?_) (fun _ => Ok_r3 (k_X3_refuse h S1) (fun _ _ => rfl))))
  exact Ok_B (k_X3_addUse h _ _ _) (fun S hS => Ok_l (Ok_r3 (k_X3_go (S3 := sI S 9 (gI S 9 + (1 : Int32))) hS _) (fun _ _ => rfl)))
theorem k_X3_behindPart {S3 : SS} (h : I3 S3) (S1 : SS) : Ok (f_X3_behindPart S3 S1) R3 := by
  unfold f_X3_behindPart
  repeat' (first | exact Ok_r3 (k_X3_go h _) (fun _ _ => rfl) | exact Ok_r3 (k_X3_refuse h S1) (fun _ _ => rfl) | refine Ok_c (fun _ => ?_) (fun _ => ?_) | refine Ok_B (P := fun _ => True) (Ok_c (fun _ => Ok_s trivial) (fun _ => Ok_s trivial)) (fun v _ => ?_))
theorem k_X3_checkDrivers {S3 : SS} (h : I3 S3) : Ok (f_X3_checkDrivers S3) R3 := by
  refine Ok_B (P := fun _ => True) ?_ (fun v _ => Ok_c (fun _ => Ok_s ⟨Or.inr rfl, h⟩) (fun _ => Ok_B (k_X3_failAt h _ _) (fun w hw => ?_)))
  · refine Ok_F (fun v : Int32 × Int32 => IV 0 667 v.2) (fun v => (667 - v.2.toInt).toNat) (fun v hv => ?_) IV_00 (mz 667)
    obtain ⟨a, v⟩ := v
    refine Ok_c (fun _ => Ok_s trivial) (fun c => ?_)
    have ⟨g1, g2, g3⟩ := k_lp (by decide) hv h c
    refine Ok_G (IV_in g1 (by decide) (by decide)) (Ok_B (k_X3_isHead _) (fun r _ => Ok_c (fun _ => Ok_l (Ok_s (OkI_l g2 g3))) (fun _ => ?_)))
    exact Ok_c (fun _ => Ok_l (Ok_l (Ok_s (OkI_l g2 g3)))) (fun _ => Ok_l (Ok_s (OkI_l g2 g3)))
  · obtain ⟨r, S⟩ := w
    exact Ok_c (fun _ => Ok_s ⟨Or.inl rfl, hw.2⟩) (fun _ => Ok_s ⟨Or.inr rfl, hw.2⟩)
def R30 (r : Int32 × SS × SS) : Prop := zb r.1 ∧ I3 r.2.1 ∧ I0 r.2.2
theorem Ok_r30 {x : Option (Int32 × SS)} {k : Int32 × SS → Option (Int32 × SS × SS)} {S0 : SS} (h : Ok x R3) (h0 : I0 S0) (hk : ∀ r S, k (r, S) = zG (zb r) (some (r, S, S0))) : Ok (zB x k) R30 := by
  refine Ok_B h (fun w hw => ?_)
  obtain ⟨r, S⟩ := w
  rw [hk]
  exact Ok_G hw.1 (Ok_s ⟨hw.1, hw.2, h0⟩)
theorem Ok_r33 {x : Option (Int32 × SS × SS)} {k : Int32 × SS × SS → Option (Int32 × SS × SS)} (h : Ok x R30) (hk : ∀ r S T, k (r, S, T) = zG (zb r) (some (r, S, T))) : Ok (zB x k) R30 := by
  refine Ok_B h (fun w hw => ?_)
  obtain ⟨r, S, T⟩ := w
  rw [hk]
  exact Ok_G hw.1 (Ok_s hw)
theorem k_X3_tell {S3 S0 : SS} (h : I3 S3) (h0 : I0 S0) (p1 : Int64) (p2 p3 : Int32) : Ok (f_X3_tell S3 S0 p1 p2 p3) R30 := by
  refine Ok_c (fun _ => ?_) (fun _ => Ok_r30 (k_X3_failAt h _ _) h0 (fun _ _ => rfl))
  refine Ok_B (k_X0_find h0 p1) (fun r _ => Ok_c (fun _ => ?_) (fun _ => Ok_r30 (k_X3_failAt h _ _) h0 (fun _ _ => rfl)))
  exact Ok_B (k_X0_add h0 _ _ _) (fun S hS => Ok_s ⟨Or.inr rfl, h, hS⟩)
theorem k_X3_tellHere {S3 S0 : SS} (h : I3 S3) (S1 : SS) (h0 : I0 S0) : Ok (f_X3_tellHere S3 S1 S0) R30 := by
  refine Ok_B (k_X3_isName S3 S1) (fun _ _ => Ok_c (fun _ => Ok_r30 (k_X3_refuse h S1) h0 (fun _ _ => rfl)) (fun _ => ?_))
  refine Ok_B (k_X3_tell h h0 _ _ _) (fun w hw => ?_)
  obtain ⟨r, S, T⟩ := w
  refine Ok_c (fun _ => Ok_s ⟨Or.inl rfl, hw.2⟩) (fun _ => Ok_c (fun _ => ?_) (fun _ => ?_))
  · exact Ok_r30 (k_X3_beginParts hw.2.1 _ _ _) hw.2.2 (fun _ _ => rfl)
  · exact Ok_r30 (k_X3_go hw.2.1 _) hw.2.2 (fun _ _ => rfl)
theorem k_X3_tellOrDrive {S3 S0 : SS} (h : I3 S3) (S1 : SS) (h0 : I0 S0) : Ok (f_X3_tellOrDrive S3 S1 S0) R30 := by
  refine Ok_c (fun _ => Ok_l ?_) (fun _ => Ok_c (fun _ => Ok_l ?_) (fun _ => Ok_r30 (k_X3_refuse h S1) h0 (fun _ _ => rfl)))
  · refine Ok_B (k_X3_tell (S3 := sI S3 5 2) h h0 _ _ _) (fun w hw => ?_)
    obtain ⟨r, S, T⟩ := w
    refine Ok_c (fun _ => Ok_s ⟨Or.inl rfl, hw.2⟩) (fun _ => Ok_B (k_X3_go hw.2.1 _) (fun u hu => ?_))
    obtain ⟨r2, S2⟩ := u
    exact Ok_c (fun _ => Ok_s ⟨Or.inl rfl, hu.2, hw.2.2⟩) (fun _ => Ok_s ⟨Or.inr rfl, hu.2, hw.2.2⟩)
  · refine Ok_B (k_X3_checkDrivers (S3 := sI S3 5 4) h) (fun w hw => ?_)
    obtain ⟨r, S⟩ := w
    refine Ok_c (fun _ => Ok_s ⟨Or.inl rfl, hw.2, h0⟩) (fun _ => Ok_B (k_X3_go hw.2 _) (fun u hu => ?_))
    obtain ⟨r2, S2⟩ := u
    exact Ok_c (fun _ => Ok_s ⟨Or.inl rfl, hu.2, h0⟩) (fun _ => Ok_s ⟨Or.inr rfl, hu.2, h0⟩)
theorem k_X3_takeGate {S3 S0 : SS} (h : I3 S3) (S1 : SS) (h0 : I0 S0) : Ok (f_X3_takeGate S3 S1 S0) R30 := by
  refine Ok_l (Ok_B (k_X3_gateHere S3 S1) (fun r hr => Ok_c (fun _ => Ok_r30 (k_X3_refuse h S1) h0 (fun _ _ => rfl)) (fun c => ?_)))
  refine Ok_B (k_X0_has h0 _) (fun r2 hr2 => Ok_c (fun _ => Ok_r30 (k_X3_refuse h S1) h0 (fun _ _ => rfl)) (fun c2 => ?_))
  refine Ok_G (k_in60 (hr2.2 c2).1) (Ok_l (Ok_G (IV_in (hr.2 c) (by decide) (by decide)) ?_))
  exact Ok_r30 (S0 := sA S0 5 _) (k_X3_beginParts h _ _ _) h0 (fun _ _ => rfl)
theorem k_X3_takeDelay {S3 S0 : SS} (h : I3 S3) (S1 : SS) (h0 : I0 S0) : Ok (f_X3_takeDelay S3 S1 S0) R30 := by
  refine Ok_B (k_X0_has h0 _) (fun r hr => Ok_B (P := I0) (Ok_c (fun _ => Ok_s h0) (fun c => Ok_G (k_in60 (hr.2 c).1) (Ok_l (Ok_s h0)))) (fun S hS => ?_))
  exact Ok_r30 (k_X3_go h _) hS (fun _ _ => rfl)
theorem k_X3_step {S3 S0 : SS} (h : I3 S3) (S1 : SS) (h0 : I0 S0) : Ok (f_X3_step S3 S1 S0) R30 := by
  unfold f_X3_step
  refine Ok_l ?_
  repeat' (first | exact Ok_r30 (k_X3_beginLine h S1) h0 (fun _ _ => rfl) | exact Ok_r33 (k_X3_tellHere h S1 h0) (fun _ _ _ => rfl) | exact Ok_r30 (k_X3_go h _) h0 (fun _ _ => rfl) | exact Ok_r30 (k_X3_endLine h S1) h0 (fun _ _ => rfl) | exact Ok_r33 (k_X3_tellOrDrive h S1 h0) (fun _ _ _ => rfl) | exact Ok_r33 (k_X3_takeGate h S1 h0) (fun _ _ _ => rfl) | exact Ok_r30 (k_X3_takeDriver h S1) h0 (fun _ _ => rfl) | exact Ok_r30 (k_X3_refuse h S1) h0 (fun _ _ => rfl) | exact Ok_r30 (k_X3_takePart h S1) h0 (fun _ _ => rfl) | exact Ok_r30 (k_X3_behindPart h S1) h0 (fun _ _ => rfl) | exact Ok_r33 (k_X3_takeDelay h S1 h0) (fun _ _ _ => rfl) | refine Ok_c (fun _ => ?_) (fun _ => ?_))
