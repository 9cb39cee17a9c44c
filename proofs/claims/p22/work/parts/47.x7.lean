/-- the reference between two calls: B bounds the changes counted of a NODE, T the time -/
def M7 (Zt B T : Int) (S : SS) : Prop := N7 S ∧ AR 0 B (gA S 44) ∧ IV 0 T (gI S 47) ∧ AR 0 59 (gA S 38) ∧ IV 0 Zt (gI S 2) ∧ AR 0 1 (gA S 32)
theorem M7_sA {Zt B T : Int} {S : SS} {q : Nat} {f : Nat → Int32} (hq : (q ≠ 12 ∧ q ≠ 14 ∧ q ≠ 15 ∧ q ≠ 16) ∧ q ≠ 44 ∧ q ≠ 38 ∧ q ≠ 32) (h : M7 Zt B T S) : M7 Zt B T (sA S q f) := by
  obtain ⟨h1, h2, h3, h4, h5, h6⟩ := h
  refine ⟨N7_sA hq.1 h1, ?_, h3, ?_, h5, ?_⟩
  · rw [gA_ne (Ne.symm hq.2.1)]; exact h2
  · rw [gA_ne (Ne.symm hq.2.2.1)]; exact h4
  · rw [gA_ne (Ne.symm hq.2.2.2)]; exact h6
theorem M7_sI {Zt B T : Int} {S : SS} {k : Nat} {v : Int32} (hk : (k ≠ 29 ∧ k ≠ 30) ∧ k ≠ 47 ∧ k ≠ 2) (h : M7 Zt B T S) : M7 Zt B T (sI S k v) := by
  obtain ⟨h1, h2, h3, h4, h5, h6⟩ := h
  refine ⟨N7_sI hk.1 h1, h2, ?_, h4, ?_, h6⟩
  · rw [gI_ne (Ne.symm hk.2.1)]; exact h3
  · rw [gI_ne (Ne.symm hk.2.2)]; exact h5
theorem M7_At {Zt B T : Int} {q : Nat} {S U : SS} (hq : (q ≠ 12 ∧ q ≠ 14 ∧ q ≠ 15 ∧ q ≠ 16) ∧ q ≠ 44 ∧ q ≠ 38 ∧ q ≠ 32) (h : M7 Zt B T S) (ht : Atq q S U) : M7 Zt B T U := by
  obtain ⟨f, rfl⟩ := ht
  exact M7_sA hq h
theorem AR_mono {a b c d : Int} {f : Nat → Int32} (h : AR a b f) (h1 : c ≤ a) (h2 : b ≤ d) : AR c d f := AR_wk h h1 h2
theorem M7_mono {Zt B T B' T' : Int} {S : SS} (h : M7 Zt B T S) (hB : B ≤ B') (hT : T ≤ T') : M7 Zt B' T' S := by
  obtain ⟨h1, h2, h3, h4, h5, h6⟩ := h
  exact ⟨h1, AR_wk h2 (Int.le_refl _) hB, IV_wk h3 (Int.le_refl _) hT, h4, h5, h6⟩
theorem k_X7_fault (S7 : SS) (p1 : Int32) : Ok (f_X7_fault S7 p1) (fun _ => True) := Ok_c (fun _ => Ok_s trivial) (fun _ => Ok_c (fun _ => Ok_s trivial) (fun _ => Ok_s trivial))
theorem k_down {v : Int32} (hv : IV (-8) 56 v) (c : ¬ v < 0) : IV (-8) 56 (v + Int32.ofInt (-8)) ∧ ((v + Int32.ofInt (-8)).toInt + 8).toNat < (v.toInt + 8).toNat := by
  obtain ⟨b1, b2⟩ := hv
  have t0 : (0 : Int32).toInt = 0 := by decide
  have t8 : (Int32.ofInt (-8)).toInt = -8 := by decide
  rw [ti_lt, t0] at c
  have e2 : (v + Int32.ofInt (-8)).toInt = v.toInt - 8 := by rw [ti_add (by rw [t8]; omega) (by rw [t8]; omega), t8]; omega
  exact ⟨⟨by rw [e2]; omega, by rw [e2]; omega⟩, by rw [e2]; omega⟩
theorem k_X7_plain (p1 : Int64) : Ok (f_X7_plain p1) (fun _ => True) := by
  refine Ok_F (fun v : Int64 × Int32 => IV (-8) 56 v.2) (fun v => (v.2.toInt + 8).toNat) (fun v hv => ?_) IV_lit (by decide)
  obtain ⟨a, v⟩ := v
  refine Ok_c (fun _ => Ok_s trivial) (fun c => ?_)
  have ⟨e3, e4⟩ := k_down hv c
  exact Ok_c (fun _ => Ok_l (Ok_s (OkI_l e3 e4))) (fun _ => Ok_l (Ok_l (Ok_s (OkI_l e3 e4))))
theorem k_X7_named {S7 : SS} (h : N7 S7) (p1 : Int64) : Ok (f_X7_named S7 p1) (fun _ => True) := by
  refine Ok_B (k_X7_plain p1) (fun r _ => ?_)
  refine Ok_F (fun v : Int32 => IV 0 60 v) (fun v => (60 - v.toInt).toNat) (fun v hv => ?_) IV_00 (mz 60)
  refine Ok_c (fun _ => Ok_s trivial) (fun c => ?_)
  have ⟨g1, g2, g3⟩ := k_lp (by decide) hv h.2.1 c
  exact Ok_G (k_in120 (k_ix h.1 g1)) (Ok_c (fun _ => Ok_s trivial) (fun _ => Ok_l (Ok_s (OkI_l g2 g3))))
theorem k_X7_node {S7 : SS} (h : N7 S7) (p1 p2 : Int32) : Ok (f_X7_node S7 p1 p2) (fun _ => True) := by
  refine Ok_B (k_X7_isNode h p1) (fun r hr => Ok_c (fun _ => Ok_s trivial) (fun c => Ok_l ?_))
  have g := k_in120 (k_ix h.1 (hr.2 c))
  repeat' (first | exact Ok_G g (Ok_s trivial) | exact Ok_s trivial | refine Ok_c (fun _ => ?_) (fun _ => ?_))
theorem k_X7_set {Zt B T : Int} {S7 : SS} (h : M7 Zt B T S7) (p1 p2 : Int32) : Ok (f_X7_set S7 p1 p2) (fun r => M7 Zt B T r.2 ∧ gI r.2 2 = gI S7 2) := by
  refine Ok_B (k_X7_isNode h.1 p1) (fun r hr => Ok_c (fun _ => Ok_s ⟨h, rfl⟩) (fun c => Ok_B (k_X7_kind h.1 (hr.2 c)) (fun _ _ => Ok_c (fun _ => Ok_c (fun _ => Ok_s ⟨h, rfl⟩) (fun _ => Ok_c (fun _ => ?_) (fun _ => Ok_s ⟨h, rfl⟩))) (fun _ => Ok_s ⟨h, rfl⟩))))
  have h2 : M7 Zt B T (sA S7 33 (upd (gA S7 33) p1.toNatClampNeg p2)) := M7_sA (by decide) h
  exact Ok_G (k_in60 (hr.2 c)) (Ok_l (Ok_B (k_X7_settle h2.1) (fun U hU => Ok_s ⟨M7_At (by decide) h2 hU, Atq_I hU 2⟩)))
theorem k_X7_load {Zt B T : Int} {S7 : SS} (h : M7 Zt B T S7) (p1 p2 : Int32) : Ok (f_X7_load S7 p1 p2) (fun r => M7 Zt B T r.2 ∧ gI r.2 2 = gI S7 2) := by
  refine Ok_B (k_X7_isNode h.1 p1) (fun r hr => Ok_c (fun _ => Ok_s ⟨h, rfl⟩) (fun c => Ok_B (k_X7_kind h.1 (hr.2 c)) (fun _ _ => Ok_c (fun _ => Ok_c (fun _ => Ok_s ⟨h, rfl⟩) (fun _ => Ok_c (fun _ => ?_) (fun _ => Ok_s ⟨h, rfl⟩))) (fun _ => Ok_s ⟨h, rfl⟩))))
  have h2 : M7 Zt B T (sA S7 33 (upd (gA S7 33) p1.toNatClampNeg p2)) := M7_sA (by decide) h
  exact Ok_G (k_in60 (hr.2 c)) (Ok_l (Ok_B (k_X7_settle h2.1) (fun U hU => Ok_s ⟨M7_At (by decide) h2 hU, Atq_I hU 2⟩)))
theorem k_X7_value {S7 : SS} (h : N7 S7) (p1 : Int32) : Ok (f_X7_value S7 p1) (fun _ => True) := Ok_B (k_X7_isNode h p1) (fun r hr => Ok_c (fun _ => Ok_s trivial) (fun c => Ok_G (k_in60 (hr.2 c)) (Ok_s trivial)))
theorem k_X7_tick {Zt B T : Int} {S7 : SS} (h : M7 Zt B T S7) : Ok (f_X7_tick S7) (fun r => M7 Zt B T r.2 ∧ gI r.2 2 = gI S7 2) := by
  refine Ok_B (P := fun r : Int32 × SS => Atq 33 S7 r.2) ?_ (fun w hw => ?_)
  · refine Ok_F (fun v : Int32 × Int32 × SS => IV 0 60 v.2.1 ∧ Atq 33 S7 v.2.2) (fun v => (60 - v.2.1.toInt).toNat) (fun v hv => ?_) ⟨IV_00, Atq_r 33 S7⟩ (mz 60)
    obtain ⟨a, v, S⟩ := v
    obtain ⟨hv, hS⟩ : IV 0 60 v ∧ Atq 33 S7 S := hv
    have hN : N7 S := N7_At (by decide) h.1 hS
    refine Ok_c (fun _ => Ok_s hS) (fun c => ?_)
    have ⟨g1, g2, g3⟩ := k_lp (by decide) hv hN.2.1 c
    refine Ok_B (k_X7_kind hN g1) (fun _ _ => Ok_c (fun _ => ?_) (fun _ => Ok_l (Ok_s (OkI_l ⟨g2, hS⟩ g3))))
    refine Ok_B (k_X7_in hN g1 IV_lit) (fun r hr => Ok_G (k_in60 hr) (Ok_B (k_X7_taken _) (fun _ _ => Ok_G (k_in120 (k_ix hN.1 g1)) (Ok_B (P := fun _ => True) ?_ (fun w _ => Ok_B (P := fun _ => True) ?_ (fun w2 _ => ?_))))))
    · exact Ok_c (fun _ => Ok_s trivial) (fun _ => Ok_B (k_X7_in hN g1 IV_lit) (fun r hr => Ok_G (k_in60 hr) (Ok_B (k_X7_taken _) (fun _ _ => Ok_s trivial))))
    · exact Ok_c (fun _ => Ok_s trivial) (fun _ => Ok_c (fun _ => Ok_G (k_in60 g1) (Ok_s trivial)) (fun _ => Ok_G (k_in60 g1) (Ok_c (fun _ => Ok_s trivial) (fun _ => Ok_s trivial))))
    · exact Ok_G (k_in60 g1) (Ok_B (P := fun _ => True) (Ok_c (fun _ => Ok_s trivial) (fun _ => Ok_s trivial)) (fun _ _ => Ok_l (Ok_l (Ok_l (Ok_s (OkI_l ⟨g2, Atq_s hS⟩ g3))))))
  · obtain ⟨r, S⟩ := w
    have h2 : M7 Zt B T S := M7_At (by decide) h hw
    exact Ok_B (k_X7_settle h2.1) (fun U hU => Ok_s ⟨M7_At (by decide) h2 hU, (Atq_I hU 2).trans (Atq_I hw 2)⟩)
/-- behind find: what is not known, at most as many as NODES -/
theorem k_X7_find {Zt B T : Int} {S7 : SS} (h : M7 Zt B T S7) : Ok (f_X7_find S7) (fun S => M7 Zt B T S ∧ gI S 2 = gI S7 2 ∧ IV 0 60 (gI S 39)) := by
  refine Ok_l ?_
  refine Ok_F (fun v : Int32 × SS => IV 0 60 v.1 ∧ (M7 Zt B T v.2 ∧ gI v.2 2 = gI S7 2 ∧ IV 0 60 (gI v.2 39)) ∧ (gI v.2 39).toInt ≤ v.1.toInt) (fun v => (60 - v.1.toInt).toNat) (fun v hv => ?_) ⟨IV_00, ⟨M7_sI (by decide) h, rfl, IV_00⟩, Int.le_refl _⟩ (mz 60)
  obtain ⟨v, S⟩ := v
  obtain ⟨hv, hS, hle⟩ : IV 0 60 v ∧ (M7 Zt B T S ∧ gI S 2 = gI S7 2 ∧ IV 0 60 (gI S 39)) ∧ (gI S 39).toInt ≤ v.toInt := hv
  obtain ⟨hM, h2, h39⟩ := id hS
  have hN := hM.1
  refine Ok_c (fun _ => Ok_s hS) (fun c => ?_)
  have ⟨g1, g2, g3, g4, g5⟩ := lp_up (by decide) hv hN.2.1.2 c
  have e39 : IV 0 59 (gI S 39) := ⟨h39.1, by have := g1.2; omega⟩
  have e1 : (gI S 39 + (1 : Int32)).toInt = (gI S 39).toInt + 1 := IV_step rfl e39 (by decide) (by decide) (by decide)
  have e2 : IV 0 60 (gI S 39 + (1 : Int32)) := IV_add rfl e39 (IV_lit (a := 1) (b := 1)) (by decide) (by decide) (by decide) (by decide)
  have u1 : (gI S 39).toInt ≤ (v + 1).toInt := by omega
  have u2 : (gI S 39 + (1 : Int32)).toInt ≤ (v + 1).toInt := by omega
  have hM2 : M7 Zt B T (sI (sA S 38 (upd (gA S 38) (gI S 39).toNatClampNeg v)) 39 (gI S 39 + (1 : Int32))) := by
    refine M7_sI (by decide) ?_
    obtain ⟨q1, q2, q3, q4, q5, q6⟩ := hM
    refine ⟨N7_sA (by decide) q1, ?_, q3, ?_, q5, ?_⟩
    · rw [gA_ne (by decide)]; exact q2
    · rw [gA_eq]; exact AR_upd q4 g1
    · rw [gA_ne (by decide)]; exact q6
  have put : Ok (zG (vp_in (gI S 39) 60) (zL (sA S 38 (upd (gA S 38) (gI S 39).toNatClampNeg v)) (fun s7_24 => zL (sI s7_24 39 ((gI s7_24 39) + (1 : Int32))) (fun s7_26 => zL (v + 1) (fun v27 => some (Sum.inl (v27, s7_26) : (Int32 × SS) ⊕ SS)))))) (OkI (fun v : Int32 × SS => IV 0 60 v.1 ∧ (M7 Zt B T v.2 ∧ gI v.2 2 = gI S7 2 ∧ IV 0 60 (gI v.2 39)) ∧ (gI v.2 39).toInt ≤ v.1.toInt) (fun v => (60 - v.1.toInt).toNat) (fun S => M7 Zt B T S ∧ gI S 2 = gI S7 2 ∧ IV 0 60 (gI S 39)) (v, S)) :=
    Ok_G (k_in60 e39) (Ok_l (Ok_l (Ok_l (Ok_s (OkI_l ⟨g2, ⟨hM2, h2, e2⟩, u2⟩ g3)))))
  refine Ok_B (k_X7_kind hN g1) (fun _ _ => Ok_c (fun _ => ?_) (fun _ => Ok_B (k_X7_kind hN g1) (fun _ _ => Ok_c (fun _ => ?_) (fun _ => ?_))))
  · exact Ok_G (k_in60 g1) (Ok_c (fun _ => put) (fun _ => Ok_l (Ok_s (OkI_l ⟨g2, hS, u1⟩ g3))))
  · exact Ok_G (k_in60 g1) (Ok_c (fun _ => put) (fun _ => Ok_l (Ok_s (OkI_l ⟨g2, hS, u1⟩ g3))))
  · exact Ok_l (Ok_s (OkI_l ⟨g2, hS, u1⟩ g3))
theorem k_X7_drives {S7 : SS} (h : N7 S7) {p1 : Int32} (hp : IV 0 59 p1) (hb : gA S7 12 ((60 : Int32) * gI S7 30 + p1).toNatClampNeg = 1) : Ok (f_X7_drives S7 p1) (fun r => zb r.1 ∧ Atq 35 S7 r.2) := by
  have hix := k_ix h.1 hp
  refine Ok_l (Ok_B (P := fun r : Int32 × SS => Atq 35 S7 r.2) ?_ (fun w hw => ?_))
  · refine Ok_F (fun v : Int32 × Int32 × SS => IV 0 6 v.2.1 ∧ Atq 35 S7 v.2.2) (fun v => (6 - v.2.1.toInt).toNat) (fun v hv => ?_) ⟨IV_00, Atq_r 35 S7⟩ (mz 6)
    obtain ⟨a, v, S⟩ := v
    obtain ⟨hv, hS⟩ : IV 0 6 v ∧ Atq 35 S7 S := hv
    have hN : N7 S := N7_At (by decide) h hS
    refine Ok_G (k_in120 hix) (Ok_c (fun _ => Ok_s hS) (fun c => ?_))
    have hb2 : gA S 12 ((60 : Int32) * gI S7 30 + p1).toNatClampNeg = 1 := by rw [Atq_A hS (by decide)]; exact hb
    have ⟨g1, g2, g3⟩ := k_lp (by decide) hv (hN.2.2.2.2.1 _ hb2) c
    have e0 : IV 0 10 ((2 : Int32) * v) := IV_mul rfl (IV_lit (a := 2) (b := 2)) g1 (by decide) (by decide) (by decide) (by decide) (by decide)
    have e1 : IV 0 11 (((2 : Int32) * v) + (1 : Int32)) := IV_add rfl e0 (IV_lit (a := 1) (b := 1)) (by decide) (by decide) (by decide) (by decide)
    have e2 : IV 0 719 ((6 : Int32) * ((60 : Int32) * gI S7 30 + p1) + v) := IV_add rfl (IV_mul (u := 0) (v := 714) rfl (IV_lit (a := 6) (b := 6)) hix (by decide) (by decide) (by decide) (by decide) (by decide)) g1 (by decide) (by decide) (by decide) (by decide)
    refine Ok_B (k_X7_in hN hp e1) (fun r hr => Ok_G (k_in60 hr) (Ok_B (P := fun _ => True) (Ok_c (fun _ => Ok_s trivial) (fun _ => Ok_s trivial)) (fun _ _ => Ok_G (IV_in e2 (by decide) (by decide)) (Ok_c (fun _ => Ok_l ?_) (fun _ => Ok_l (Ok_s (OkI_l ⟨g2, hS⟩ g3)))))))
    exact Ok_B (k_X7_in hN hp (IV_wk e0 (by decide) (by decide))) (fun r hr => Ok_G (k_in60 hr) (Ok_G (k_in60 hp) (Ok_l (Ok_l (Ok_s (OkI_l ⟨g2, Atq_s hS⟩ g3))))))
  · obtain ⟨a, S⟩ := w
    have hw : Atq 35 S7 S := hw
    refine Ok_B (P := fun T => Atq 35 S7 T) (Ok_c (fun _ => Ok_G (k_in60 hp) (Ok_l (Ok_s (Atq_s hw)))) (fun _ => Ok_s hw)) (fun T hT => ?_)
    exact Ok_c (fun _ => Ok_s ⟨Or.inr rfl, hT⟩) (fun _ => Ok_s ⟨Or.inl rfl, hT⟩)
theorem k_X7_goes {S7 : SS} (h : N7 S7) (h38 : AR 0 59 (gA S7 38)) (h39 : IV 0 60 (gI S7 39)) (p1 : Int32) : Ok (f_X7_goes S7 p1) (fun r => zb r.1 ∧ Atq 35 S7 r.2) := by
  refine Ok_B (P := fun S => Atq 35 S7 S) ?_ (fun A hA => Ok_B (P := fun S => Atq 35 S7 S) ?_ (fun C hC => ?_))
  · refine Ok_F (fun v : Int32 × SS => IV 0 60 v.1 ∧ Atq 35 S7 v.2) (fun v => (60 - v.1.toInt).toNat) (fun v hv => ?_) ⟨IV_00, Atq_r 35 S7⟩ (mz 60)
    obtain ⟨v, S⟩ := v
    obtain ⟨hv, hS⟩ : IV 0 60 v ∧ Atq 35 S7 S := hv
    have hN : N7 S := N7_At (by decide) h hS
    refine Ok_c (fun _ => Ok_s hS) (fun c => ?_)
    have ⟨g1, g2, g3⟩ := k_lp (by decide) hv hN.2.1 c
    exact Ok_G (k_in60 g1) (Ok_l (Ok_l (Ok_s (OkI_l ⟨g2, Atq_s hS⟩ g3))))
  · refine Ok_F (fun v : Int32 × SS => IV 0 60 v.1 ∧ Atq 35 S7 v.2) (fun v => (60 - v.1.toInt).toNat) (fun v hv => ?_) ⟨IV_00, hA⟩ (mz 60)
    obtain ⟨v, S⟩ := v
    obtain ⟨hv, hS⟩ : IV 0 60 v ∧ Atq 35 S7 S := hv
    refine Ok_c (fun _ => Ok_s hS) (fun c => ?_)
    have ⟨g1, g2, g3⟩ := k_lp (by decide) hv (by rw [Atq_I hS]; exact h39) c
    have g4 : IV 0 59 (gA S 38 v.toNatClampNeg) := by rw [Atq_A hS (by decide)]; exact h38 _
    exact Ok_G (k_in60 g1) (Ok_G (k_in60 g4) (Ok_l (Ok_l (Ok_s (OkI_l ⟨g2, Atq_s hS⟩ g3)))))
  · refine Ok_F (fun v : Int32 × Int32 × SS => zb v.1 ∧ IV 0 61 v.2.1 ∧ Atq 35 S7 v.2.2) (fun v => (61 - v.2.1.toInt).toNat) (fun v hv => ?_) ⟨Or.inr rfl, IV_00, hC⟩ (mz 61)
    obtain ⟨a, v, S⟩ := v
    obtain ⟨ha, hv, hS⟩ : zb a ∧ IV 0 61 v ∧ Atq 35 S7 S := hv
    have hN : N7 S := N7_At (by decide) h hS
    refine Ok_c (fun _ => Ok_G ha (Ok_s ⟨ha, hS⟩)) (fun c => Ok_c (fun _ => Ok_G ha (Ok_s ⟨ha, hS⟩)) (fun _ => ?_))
    have g1 : IV 0 60 v := IV_nlt_r c hN.2.1 hv (by decide) (by decide)
    have g2 : IV 0 61 (v + 1) := IV_add rfl g1 (IV_lit (a := 1) (b := 1)) (by decide) (by decide) (by decide) (by decide)
    have g3 : (61 - (v + 1).toInt).toNat < (61 - v.toInt).toNat := by
      have e : (v + 1).toInt = v.toInt + 1 := IV_step rfl g1 (by decide) (by decide) (by decide)
      have := g1.2
      rw [e]
      omega
    refine Ok_B (P := fun r : Int32 × SS => zb r.1 ∧ Atq 35 S7 r.2) ?_ (fun w hw => ?_)
    · refine Ok_F (fun v : Int32 × Int32 × SS => zb v.1 ∧ IV 0 60 v.2.1 ∧ Atq 35 S7 v.2.2) (fun v => (60 - v.2.1.toInt).toNat) (fun v hv => ?_) ⟨ha, IV_00, hS⟩ (mz 60)
      obtain ⟨b, u, U⟩ := v
      obtain ⟨hb, hu, hU⟩ : zb b ∧ IV 0 60 u ∧ Atq 35 S7 U := hv
      have hNU : N7 U := N7_At (by decide) h hU
      refine Ok_c (fun _ => Ok_s ⟨hb, hU⟩) (fun c => ?_)
      have ⟨k1, k2, k3⟩ := k_lp (by decide) hu hNU.2.1 c
      refine Ok_G (k_in120 (k_ix hNU.1 k1)) (Ok_c (fun _ => ?_) (fun _ => Ok_l (Ok_s (OkI_l ⟨hb, k2, hU⟩ k3))))
      refine Ok_B (k_X7_kind hNU k1) (fun r hr => Ok_B (P := fun V => Atq 35 S7 V) ?_ (fun V hV => ?_))
      · exact Ok_c (fun _ => Ok_B (k_X7_gate hNU k1 35) (fun _ _ => Ok_G (k_in60 k1) (Ok_l (Ok_s (Atq_s hU))))) (fun _ => Ok_s hU)
      · have hNV : N7 V := N7_At (by decide) h hV
        refine Ok_B (k_X7_kind hNV k1) (fun r2 hr2 => Ok_c (fun c2 => Ok_c (fun _ => Ok_l (Ok_s (OkI_l ⟨Or.inl rfl, k2, hV⟩ k3))) (fun _ => ?_)) (fun _ => Ok_l (Ok_s (OkI_l ⟨hb, k2, hV⟩ k3))))
        refine Ok_B (k_X7_drives hNV k1 (hr2.symm.trans c2)) (fun w hw => ?_)
        obtain ⟨x, X⟩ := w
        have hX := Atq_t hV hw.2
        exact Ok_c (fun _ => Ok_l (Ok_s (OkI_l ⟨Or.inl rfl, k2, hX⟩ k3))) (fun _ => Ok_l (Ok_s (OkI_l ⟨Or.inr rfl, k2, hX⟩ k3)))
    · obtain ⟨b, U⟩ := w
      exact Ok_l (Ok_s (OkI_l ⟨hw.1, g2, hw.2⟩ g3))
theorem k_X7_worlds {Zt B T : Int} {S7 : SS} (h : M7 Zt B T S7) : Ok (f_X7_worlds S7) (fun r => M7 Zt B T r.2 ∧ gI r.2 2 = gI S7 2) := Ok_B (k_X7_find h) (fun S hS => Ok_c (fun _ => Ok_s ⟨hS.1, hS.2.1⟩) (fun _ => Ok_s ⟨hS.1, hS.2.1⟩))
theorem k_shl {x : Int32} (h : IV 0 12 x) : IV 0 4096 ((1 : Int32) <<< (x &&& 31)) := IV_wk (IV_shl (u := 1) (v := 4096) rfl h (by decide) (by decide) (by decide) (by decide)) (by decide) (by decide)
theorem k_X7_legal {Zt B T : Int} {S7 : SS} (h : M7 Zt B T S7) : Ok (f_X7_legal S7) (fun r => M7 Zt B T r.2 ∧ gI r.2 2 = gI S7 2) := by
  refine Ok_B (k_X7_find h) (fun A hA => Ok_c (fun c => ?_) (fun _ => Ok_s ⟨hA.1, hA.2.1⟩))
  have h12 : IV 0 12 (gI A 39) := IV_le_l c hA.2.2 (IV_lit (a := 12) (b := 12)) (by decide) (by decide)
  have fin : ∀ U, Atq 35 A U → M7 Zt B T U ∧ gI U 2 = gI S7 2 := fun U hU => ⟨M7_At (by decide) hA.1 hU, (Atq_I hU 2).trans hA.2.1⟩
  refine Ok_F (fun v : Int32 × Int32 × SS => IV 0 4096 v.2.1 ∧ Atq 35 A v.2.2) (fun v => (4096 - v.2.1.toInt).toNat) (fun v hv => ?_) ⟨IV_00, Atq_r 35 A⟩ (mz 4096)
  obtain ⟨a, v, S⟩ := v
  obtain ⟨hv, hS⟩ : IV 0 4096 v ∧ Atq 35 A S := hv
  refine Ok_c (fun _ => Ok_s (fin S hS)) (fun c => ?_)
  have ⟨g1, g2, g3⟩ := k_lp (by decide) hv (k_shl (by rw [Atq_I hS]; exact h12)) c
  refine Ok_B (k_X7_goes (N7_At (by decide) hA.1.1 hS) (by rw [Atq_A hS (by decide)]; exact hA.1.2.2.2.1) (by rw [Atq_I hS]; exact hA.2.2) v) (fun w hw => ?_)
  obtain ⟨r, U⟩ := w
  have hU := Atq_t hS hw.2
  exact Ok_c (fun _ => Ok_l (Ok_l (Ok_s (OkI_l ⟨g2, hU⟩ g3)))) (fun _ => Ok_l (Ok_l (Ok_s (OkI_l ⟨g2, hU⟩ g3))))
theorem k_X7_sharp {Zt B T : Int} {S7 : SS} (h : M7 Zt B T S7) (p1 : Int32) : Ok (f_X7_sharp S7 p1) (fun r => M7 Zt B T r.2 ∧ gI r.2 2 = gI S7 2) := by
  refine Ok_B (k_X7_isNode h.1 p1) (fun r hr => Ok_c (fun _ => Ok_s ⟨h, rfl⟩) (fun c0 => ?_))
  have hp := k_in60 (hr.2 c0)
  refine Ok_B (k_X7_find h) (fun A hA => Ok_c (fun c => ?_) (fun _ => Ok_s ⟨hA.1, hA.2.1⟩))
  have h12 : IV 0 12 (gI A 39) := IV_le_l c hA.2.2 (IV_lit (a := 12) (b := 12)) (by decide) (by decide)
  have fin : ∀ U, Atq 35 A U → M7 Zt B T U ∧ gI U 2 = gI S7 2 := fun U hU => ⟨M7_At (by decide) hA.1 hU, (Atq_I hU 2).trans hA.2.1⟩
  refine Ok_F (fun v : Int32 × Int32 × SS => IV 0 4096 v.2.1 ∧ Atq 35 A v.2.2) (fun v => (4096 - v.2.1.toInt).toNat) (fun v hv => ?_) ⟨IV_00, Atq_r 35 A⟩ (mz 4096)
  obtain ⟨a, v, S⟩ := v
  obtain ⟨hv, hS⟩ : IV 0 4096 v ∧ Atq 35 A S := hv
  refine Ok_c (fun _ => Ok_s (fin S hS)) (fun c => ?_)
  have ⟨g1, g2, g3⟩ := k_lp (by decide) hv (k_shl (by rw [Atq_I hS]; exact h12)) c
  refine Ok_B (k_X7_goes (N7_At (by decide) hA.1.1 hS) (by rw [Atq_A hS (by decide)]; exact hA.1.2.2.2.1) (by rw [Atq_I hS]; exact hA.2.2) v) (fun w hw => ?_)
  obtain ⟨r, U⟩ := w
  have hU := Atq_t hS hw.2
  refine Ok_c (fun _ => Ok_l (Ok_s (OkI_l ⟨g2, hU⟩ g3))) (fun _ => Ok_c (fun _ => Ok_G hp (Ok_l (Ok_l (Ok_s (OkI_l ⟨g2, hU⟩ g3))))) (fun _ => Ok_G hp ?_))
  exact Ok_c (fun _ => Ok_l (Ok_l (Ok_s (OkI_l ⟨g2, hU⟩ g3)))) (fun _ => Ok_l (Ok_s (OkI_l ⟨g2, hU⟩ g3)))
theorem k_X7_gainsaid {Zt B T : Int} {S7 : SS} (h : M7 Zt B T S7) : Ok (f_X7_gainsaid S7) (fun r => M7 Zt B T r.2 ∧ gI r.2 2 = gI S7 2) := by
  refine Ok_B (k_X7_find h) (fun A hA => Ok_c (fun c => ?_) (fun _ => Ok_s ⟨hA.1, hA.2.1⟩))
  have h12 : IV 0 12 (gI A 39) := IV_le_l c hA.2.2 (IV_lit (a := 12) (b := 12)) (by decide) (by decide)
  have fin : ∀ U, Atq 35 A U → M7 Zt B T U ∧ gI U 2 = gI S7 2 := fun U hU => ⟨M7_At (by decide) hA.1 hU, (Atq_I hU 2).trans hA.2.1⟩
  refine Ok_F (fun v : Int32 × Int32 × SS => IV 0 4096 v.2.1 ∧ Atq 35 A v.2.2) (fun v => (4096 - v.2.1.toInt).toNat) (fun v hv => ?_) ⟨IV_00, Atq_r 35 A⟩ (mz 4096)
  obtain ⟨a, v, S⟩ := v
  obtain ⟨hv, hS⟩ : IV 0 4096 v ∧ Atq 35 A S := hv
  refine Ok_c (fun _ => Ok_s (fin S hS)) (fun c => ?_)
  have ⟨g1, g2, g3⟩ := k_lp (by decide) hv (k_shl (by rw [Atq_I hS]; exact h12)) c
  refine Ok_B (k_X7_goes (N7_At (by decide) hA.1.1 hS) (by rw [Atq_A hS (by decide)]; exact hA.1.2.2.2.1) (by rw [Atq_I hS]; exact hA.2.2) v) (fun w hw => ?_)
  obtain ⟨r, U⟩ := w
  have hU := Atq_t hS hw.2
  have hNU : N7 U := N7_At (by decide) hA.1.1 hU
  refine Ok_c (fun _ => Ok_l (Ok_s (OkI_l ⟨g2, hU⟩ g3))) (fun _ => Ok_B (P := fun _ => True) ?_ (fun _ _ => Ok_l (Ok_s (OkI_l ⟨g2, hU⟩ g3))))
  refine Ok_F (fun v : Int32 × Int32 => IV 0 60 v.2) (fun v => (60 - v.2.toInt).toNat) (fun v hv => ?_) IV_00 (mz 60)
  obtain ⟨b, u⟩ := v
  refine Ok_c (fun _ => Ok_s trivial) (fun c => ?_)
  have ⟨k1, k2, k3⟩ := k_lp (by decide) hv hNU.2.1 c
  refine Ok_S ?_
  have go : Ok (zG (vp_in u 60) (if (2 : Int32) ≤ (gA U 34 u.toNatClampNeg) then zL (u + 1) (fun v47 => some (Sum.inl (b, v47) : (Int32 × Int32) ⊕ Int32)) else if (gA U 35 u.toNatClampNeg) = (gA U 34 u.toNatClampNeg) then zL (u + 1) (fun v49 => some (Sum.inl (b, v49))) else zL (u + 1) (fun v50 => some (Sum.inl (u, v50))))) (OkI (fun v : Int32 × Int32 => IV 0 60 v.2) (fun v => (60 - v.2.toInt).toNat) (fun _ => True) (b, u)) :=
    Ok_G (k_in60 k1) (Ok_c (fun _ => Ok_l (Ok_s (OkI_l k2 k3))) (fun _ => Ok_c (fun _ => Ok_l (Ok_s (OkI_l k2 k3))) (fun _ => Ok_l (Ok_s (OkI_l k2 k3)))))
  exact Ok_c (fun _ => Ok_s go) (fun _ => Ok_c (fun _ => Ok_s trivial) (fun _ => Ok_s go))
theorem k_X7_flicker {Zt B T : Int} {S7 : SS} (h : M7 Zt B T S7) (p1 p2 : Int32) : Ok (f_X7_flicker S7 p1 p2) (fun r => M7 Zt B T r.2 ∧ gI r.2 2 = gI S7 2) := by
  refine Ok_B (k_X7_isNode h.1 p1) (fun r hr => Ok_c (fun _ => Ok_s ⟨h, rfl⟩) (fun c => Ok_B (k_X7_kind h.1 (hr.2 c)) (fun _ _ => Ok_c (fun _ => ?_) (fun _ => Ok_s ⟨h, rfl⟩))))
  refine Ok_G (k_in60 (hr.2 c)) (Ok_c (fun _ => Ok_s ⟨h, rfl⟩) (fun _ => Ok_c (fun _ => ?_) (fun _ => Ok_s ⟨h, rfl⟩)))
  refine Ok_B (P := fun S => M7 Zt B T S ∧ gI S 2 = gI S7 2) ?_ (fun A hA => Ok_l (Ok_l ?_))
  · refine Ok_F (fun v : Int32 × SS => IV 0 60 v.1 ∧ M7 Zt B T v.2 ∧ gI v.2 2 = gI S7 2) (fun v => (60 - v.1.toInt).toNat) (fun v hv => ?_) ⟨IV_00, h, rfl⟩ (mz 60)
    obtain ⟨v, S⟩ := v
    obtain ⟨hv, hS, h2⟩ : IV 0 60 v ∧ M7 Zt B T S ∧ gI S 2 = gI S7 2 := hv
    refine Ok_c (fun _ => Ok_s ⟨hS, h2⟩) (fun c => ?_)
    have ⟨g1, g2, g3⟩ := k_lp (by decide) hv hS.1.2.1 c
    exact Ok_G (k_in60 g1) (Ok_l (Ok_l (Ok_l (Ok_s (OkI_l ⟨g2, M7_sA (by decide) (M7_sA (by decide) hS), h2⟩ g3)))))
  · have hA2 := M7_sA (q := 37) (f := upd (gA (sA A 36 (upd (gA A 36) p1.toNatClampNeg ((1 : Int32) - gA A 33 p1.toNatClampNeg))) 37) p1.toNatClampNeg 2) (by decide) (M7_sA (q := 36) (f := upd (gA A 36) p1.toNatClampNeg ((1 : Int32) - gA A 33 p1.toNatClampNeg)) (by decide) hA.1)
    refine Ok_B (k_X7_follow hA2.1 (q := 36) (by decide)) (fun C hC => ?_)
    have hC2 := M7_At (by decide) hA2 hC
    refine Ok_B (k_X7_follow hC2.1 (q := 37) (by decide)) (fun E hE => ?_)
    have hE2 := M7_At (by decide) hC2 hE
    have e2 : gI E 2 = gI S7 2 := ((Atq_I hE 2).trans (Atq_I hC 2)).trans hA.2
    refine Ok_F (fun v : Int32 × Int32 => IV 0 60 v.2) (fun v => (60 - v.2.toInt).toNat) (fun v hv => ?_) IV_00 (mz 60)
    obtain ⟨a, v⟩ := v
    refine Ok_c (fun _ => Ok_s ⟨hE2, e2⟩) (fun c => ?_)
    have ⟨g1, g2, g3⟩ := k_lp (by decide) hv hE2.1.2.1 c
    refine Ok_G (k_in60 g1) ?_
    repeat' (first | exact Ok_l (Ok_s (OkI_l g2 g3)) | exact Ok_s ⟨hE2, e2⟩ | exact Ok_l (Ok_l (Ok_s (OkI_l g2 g3))) | refine Ok_c (fun _ => ?_) (fun _ => ?_))
