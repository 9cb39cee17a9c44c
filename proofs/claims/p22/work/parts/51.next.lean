theorem k_inc {x : Int32} {n : Int} (h0 : 0 ≤ x.toInt) (h1 : x.toInt ≤ n) (hn : n ≤ 100000) : (x + (1 : Int32)).toInt = x.toInt + 1 := by
  have t1 : (1 : Int32).toInt = 1 := by decide
  rw [ti_add (by rw [t1]; omega) (by rw [t1]; omega), t1]
/-- blanks -/
theorem k_X7_next_8 {S : SS} (hz : aZ S ≤ 2000) (s : SS) (hs : FX S s ∧ gI s 7 = gI S 7 ∧ aE S ≤ aT s ∧ aT s ≤ aZ S ∧ 0 ≤ aT s) : Ok (b_X7_next_8 s) (OkI (fun s => FX S s ∧ gI s 7 = gI S 7 ∧ aE S ≤ aT s ∧ aT s ≤ aZ S ∧ 0 ≤ aT s) (fun s => (2000 - aT s).toNat) (fun s => FX S s ∧ gI s 7 = gI S 7 ∧ aE S ≤ aT s ∧ aT s ≤ aZ S ∧ 0 ≤ aT s) s) := by
  obtain ⟨h1, h2, h3, h4, h5⟩ := hs
  have ez : aZ s = aZ S := by
    show (gI s 3).toInt = (gI S 3).toInt
    rw [FX_i h1 (by decide)]
  refine Ok_c (fun _ => Ok_s ⟨h1, h2, h3, h4, h5⟩) (fun c => ?_)
  rw [ti_le] at c
  have c' : aT s < aZ S := by
    rw [← ez]
    show (gI s 6).toInt < (gI s 3).toInt
    omega
  refine Ok_B (k_X7_sign (S7 := s) (p1 := gI s 6) h5 (by rw [ez]; exact hz)) (fun r hr => Ok_S ?_)
  have inc : (gI s 6 + (1 : Int32)).toInt = aT s + 1 := k_inc h5 (n := 2000) (by show aT s ≤ 2000; omega) (by decide)
  have go : Ok (zL (sI s 6 ((gI s 6) + (1 : Int32))) (fun s7_183 => some (Sum.inl s7_183 : SS ⊕ SS))) (OkI (fun s => FX S s ∧ gI s 7 = gI S 7 ∧ aE S ≤ aT s ∧ aT s ≤ aZ S ∧ 0 ≤ aT s) (fun s => (2000 - aT s).toNat) (fun s => FX S s ∧ gI s 7 = gI S 7 ∧ aE S ≤ aT s ∧ aT s ≤ aZ S ∧ 0 ≤ aT s) s) := by
    refine Ok_l (Ok_s (OkI_l ?_ ?_))
    · have e : aT (sI s 6 (gI s 6 + (1 : Int32))) = aT s + 1 := inc
      refine ⟨FX_I (by decide) h1, ?_, by rw [e]; omega, by rw [e]; omega, by rw [e]; omega⟩
      rw [gI_ne (by decide)]
      exact h2
    · show (2000 - aT (sI s 6 (gI s 6 + (1 : Int32)))).toNat < (2000 - aT s).toNat
      have e : aT (sI s 6 (gI s 6 + (1 : Int32))) = aT s + 1 := inc
      rw [e]
      omega
  refine Ok_c (fun _ => Ok_s go) (fun _ => Ok_B (k_X7_sign (S7 := s) (p1 := gI s 6) h5 (by rw [ez]; exact hz)) (fun r hr => Ok_c (fun _ => Ok_s go) (fun _ => Ok_s ⟨h1, h2, h3, h4, h5⟩)))
/-- letters and digits -/
theorem k_X7_next_119 {S : SS} (hz : aZ S ≤ 2000) (h0 : 0 ≤ aT S) (s : SS) (hs : FX S s ∧ gI s 6 = gI S 6 ∧ aT S + 1 ≤ aE s ∧ aE s ≤ aZ S) : Ok (b_X7_next_119 s) (OkI (fun s => FX S s ∧ gI s 6 = gI S 6 ∧ aT S + 1 ≤ aE s ∧ aE s ≤ aZ S) (fun s => (2000 - aE s).toNat) (fun s => FX S s ∧ gI s 6 = gI S 6 ∧ aT S + 1 ≤ aE s ∧ aE s ≤ aZ S) s) := by
  obtain ⟨h1, h2, h3, h4⟩ := hs
  have ez : aZ s = aZ S := by
    show (gI s 3).toInt = (gI S 3).toInt
    rw [FX_i h1 (by decide)]
  have hE : 0 ≤ (gI s 7).toInt := by show 0 ≤ aE s; omega
  have inc : (gI s 7 + (1 : Int32)).toInt = aE s + 1 := k_inc hE (n := 2000) (by show aE s ≤ 2000; omega) (by decide)
  have go : aE s < aZ S → Ok (zL (sI s 7 ((gI s 7) + (1 : Int32))) (fun s7_153 => some (Sum.inl s7_153 : SS ⊕ SS))) (OkI (fun s => FX S s ∧ gI s 6 = gI S 6 ∧ aT S + 1 ≤ aE s ∧ aE s ≤ aZ S) (fun s => (2000 - aE s).toNat) (fun s => FX S s ∧ gI s 6 = gI S 6 ∧ aT S + 1 ≤ aE s ∧ aE s ≤ aZ S) s) := by
    intro hlt
    have e : aE (sI s 7 (gI s 7 + (1 : Int32))) = aE s + 1 := inc
    refine Ok_l (Ok_s (OkI_l ⟨FX_I (by decide) h1, ?_, by rw [e]; omega, by rw [e]; omega⟩ ?_))
    · rw [gI_ne (by decide)]
      exact h2
    · show (2000 - aE (sI s 7 (gI s 7 + (1 : Int32)))).toNat < (2000 - aE s).toNat
      rw [e]
      omega
  have lt : ∀ r : Int32, (aZ s ≤ (gI s 7).toInt → r = 0) → 48 ≤ r.toInt → aE s < aZ S := by
    intro r hr hr2
    rcases Int.lt_or_le (aE s) (aZ S) with q | q
    · exact q
    · have := hr (by rw [ez]; exact q)
      rw [this] at hr2
      exact absurd hr2 (by decide)
  refine Ok_B (k_X7_sign (S7 := s) (p1 := gI s 7) hE (by rw [ez]; exact hz)) (fun r hr => Ok_B (k_X7_isLetter r) (fun l hl => Ok_S ?_))
  refine Ok_c (fun _ => ?_) (fun c => Ok_s (go (lt r hr.2 (by have := (hl.2 c).1; omega))))
  refine Ok_B (k_X7_sign (S7 := s) (p1 := gI s 7) hE (by rw [ez]; exact hz)) (fun r2 hr2 => Ok_B (k_X7_isDigit r2) (fun l2 hl2 => ?_))
  exact Ok_c (fun _ => Ok_s ⟨h1, h2, h3, h4⟩) (fun c => Ok_s (go (lt r2 hr2.2 (hl2.2 c).1)))
/-- the name's bytes; one byte alone is below 256 -/
theorem k_X7_next_170 {S : SS} (hz : aZ S ≤ 2000) (h0 : 0 ≤ aT S) (hE : aE S ≤ aZ S) (hl : gL S 10 = 0) (v : Int32 × SS) (hv : IV 0 2000 v.1 ∧ FX S v.2 ∧ gI v.2 6 = gI S 6 ∧ gI v.2 7 = gI S 7 ∧ aT S ≤ v.1.toInt ∧ v.1.toInt ≤ aE S ∧ (v.1.toInt = aT S → gL v.2 10 = 0) ∧ (v.1.toInt = aT S + 1 → (gL v.2 10).toInt ≤ 255)) : Ok (b_X7_next_170 v) (OkI (fun v : Int32 × SS => IV 0 2000 v.1 ∧ FX S v.2 ∧ gI v.2 6 = gI S 6 ∧ gI v.2 7 = gI S 7 ∧ aT S ≤ v.1.toInt ∧ v.1.toInt ≤ aE S ∧ (v.1.toInt = aT S → gL v.2 10 = 0) ∧ (v.1.toInt = aT S + 1 → (gL v.2 10).toInt ≤ 255)) (fun v => (2000 - v.1.toInt).toNat) (fun s => FX S s ∧ gI s 6 = gI S 6 ∧ gI s 7 = gI S 7 ∧ (aE S = aT S + 1 → (gL s 10).toInt ≤ 255)) v) := by
  obtain ⟨v, s⟩ := v
  obtain ⟨hv, h1, h2, h3, h4, h7, h5, h6⟩ : IV 0 2000 v ∧ FX S s ∧ gI s 6 = gI S 6 ∧ gI s 7 = gI S 7 ∧ aT S ≤ v.toInt ∧ v.toInt ≤ aE S ∧ (v.toInt = aT S → gL s 10 = 0) ∧ (v.toInt = aT S + 1 → (gL s 10).toInt ≤ 255) := hv
  obtain ⟨v1, v2⟩ := id hv
  have ez : aZ s = aZ S := by
    show (gI s 3).toInt = (gI S 3).toInt
    rw [FX_i h1 (by decide)]
  have e7 : (gI s 7).toInt = aE S := by rw [h3]; rfl
  have z0 : (0 : Int64).toInt ≤ 255 := by decide
  have small : (v.toInt = aT S ∨ v.toInt = aT S + 1) → (gL s 10).toInt ≤ 255 := by
    intro q
    rcases q with q | q
    · rw [h5 q]; exact z0
    · exact h6 q
  have t8 : (8 : Int32).toInt = 8 := by decide
  have e6 : (gI s 6).toInt = aT S := by rw [h2]; rfl
  have e8 : (gI s 6 + (8 : Int32)).toInt = aT S + 8 := by rw [ti_add (by rw [t8, e6]; omega) (by rw [t8, e6]; omega), t8, e6]
  refine Ok_c (fun c => Ok_s ⟨h1, h2, h3, fun q => ?_⟩) (fun c => Ok_c (fun c2 => Ok_s ⟨h1, h2, h3, fun q => ?_⟩) (fun c2 => ?_))
  · rw [ti_le, e7] at c
    exact small (by omega)
  · rw [ti_le, e8] at c2
    rw [ti_le, e7] at c
    exact absurd q (by omega)
  · rw [ti_le, e7] at c
    refine Ok_B (k_X7_sign (S7 := s) (p1 := v) v1 (by rw [ez]; exact hz)) (fun r hr => Ok_l (Ok_l (Ok_s (OkI_l ?_ ?_))))
    · have ev : (v + 1).toInt = v.toInt + 1 := k_inc v1 (n := 2000) v2 (by decide)
      refine ⟨⟨by rw [ev]; omega, by rw [ev]; omega⟩, FX_L h1, h2, h3, by rw [ev]; omega, by rw [ev]; omega, fun q => ?_, fun q => ?_⟩
      · have q : (v + 1).toInt = aT S := q
        omega
      · have q : (v + 1).toInt = aT S + 1 := q
        show ((jLs (gL s 10) 8) ||| (jIL r)).toInt ≤ 255
        rw [h5 (by omega)]
        exact jIL_small hr.1
    · have ev : (v + 1).toInt = v.toInt + 1 := k_inc v1 (n := 2000) v2 (by decide)
      show (2000 - (v + 1).toInt).toNat < (2000 - v.toInt).toNat
      rw [ev]
      omega
theorem k_X7_next {S : SS} (h0 : 0 ≤ aE S) (h1 : aE S ≤ aZ S) (hz : aZ S ≤ 2000) : Ok (f_X7_next S) (fun T => FX S T ∧ LX T ∧ aE S ≤ aT T) := by
  refine Ok_L (fun A eA => ?_)
  have fA : FX S A := by rw [eA]; exact FX_I (by decide) (FX_r S)
  have eA7 : gI A 7 = gI S 7 := by rw [eA, gI_ne (by decide)]
  have eA6 : aT A = aE S := by rw [eA]; show (gI (sI S 6 (gI S 7)) 6).toInt = (gI S 7).toInt; rw [gI_eq]
  refine Ok_B (Ok_F _ _ (k_X7_next_8 hz) (v := A) ⟨fA, eA7, by omega, by omega, by omega⟩ (by show (2000 - aT A).toNat < 10000; omega)) (fun C hC => ?_)
  obtain ⟨c1, c2, c3, c4, c5⟩ := hC
  have ezC : aZ C = aZ S := by
    show (gI C 3).toInt = (gI S 3).toInt
    rw [FX_i c1 (by decide)]
  refine Ok_B (k_X7_sign (S7 := C) (p1 := gI C 6) c5 (by rw [ezC]; exact hz)) (fun r13 h13 => Ok_L (fun D eD => ?_))
  have inc : (gI C 6 + (1 : Int32)).toInt = aT C + 1 := k_inc c5 (n := 2000) (by show aT C ≤ 2000; omega) (by decide)
  have fD : FX S D := by rw [eD]; exact FX_I (by decide) c1
  have eD6 : gI D 6 = gI C 6 := by rw [eD, gI_ne (by decide)]
  have eD7 : aE D = aT C + 1 := by rw [eD]; show (gI (sI C 7 _) 7).toInt = _; rw [gI_eq]; exact inc
  have eDT : aT D = aT C := by show (gI D 6).toInt = (gI C 6).toInt; rw [eD6]
  have ezD : aZ D = aZ S := by
    show (gI D 3).toInt = (gI S 3).toInt
    rw [FX_i fD (by decide)]
  refine Ok_c (fun c => ?_) (fun c => ?_)
  · rw [ti_lt] at c
    have hlt : aT C < aZ S := by
      rw [← ezD, ← eDT]
      exact c
    refine Ok_B (k_X7_isLetter r13) (fun r20 h20 => Ok_c (fun _ => ?_) (fun _ => ?_))
    · refine Ok_B (k_X7_isDigit r13) (fun r25 h25 => Ok_c (fun _ => ?_) (fun cd => Ok_L (fun E eE => ?_)))
      · -- a sign, or no TOKEN
        refine Ok_B (P := fun v => v = 5 ∨ v = 1) ?_ (fun v hv => Ok_L (fun E eE => Ok_s ?_))
        · repeat' (first | exact Ok_s (Or.inl rfl) | exact Ok_s (Or.inr rfl) | refine Ok_c (fun _ => ?_) (fun _ => ?_))
        · have fE : FX S E := by rw [eE]; exact FX_I (by decide) fD
          have e6 : aT E = aT C := by rw [eE]; show (gI (sI D 8 v) 6).toInt = _; rw [gI_ne (by decide)]; exact eDT
          have e7 : aE E = aT C + 1 := by rw [eE]; show (gI (sI D 8 v) 7).toInt = _; rw [gI_ne (by decide)]; exact eD7
          have e8 : gI E 8 = v := by rw [eE, gI_eq]
          have ez : aZ E = aZ S := by
            show (gI E 3).toInt = (gI S 3).toInt
            rw [FX_i fE (by decide)]
          refine ⟨fE, ⟨by omega, by omega, by omega, by omega, fun q => ?_, fun _ => by omega, fun q => ?_, fun q => ?_⟩, by omega⟩
          · rw [e8] at q
            rcases hv with rfl | rfl <;> exact absurd q (by decide)
          · rw [e8] at q
            rcases hv with rfl | rfl <;> exact absurd q (by decide)
          · rw [e8] at q
            rcases hv with rfl | rfl <;> exact absurd q (by decide)
      · -- a digit
        have fE : FX S E := by rw [eE]; exact FX_I (by decide) fD
        have e6 : aT E = aT C := by rw [eE]; show (gI (sI D 9 _) 6).toInt = _; rw [gI_ne (by decide)]; exact eDT
        have e7 : aE E = aT C + 1 := by rw [eE]; show (gI (sI D 9 _) 7).toInt = _; rw [gI_ne (by decide)]; exact eD7
        have ez : aZ E = aZ S := by
          show (gI E 3).toInt = (gI S 3).toInt
          rw [FX_i fE (by decide)]
        have e9 : IV 0 9 (gI E 9) := by
          rw [eE, gI_eq]
          exact IV_sub rfl (show IV 48 57 r13 from h25.2 cd) (IV_lit (a := 48) (b := 48)) (by decide) (by decide) (by decide) (by decide)
        have s7 : 0 ≤ (gI E 7).toInt := by show 0 ≤ aE E; omega
        refine Ok_B (P := fun v => v = 4 ∨ v = 1) ?_ (fun v hv => Ok_L (fun F eF => Ok_s ?_))
        · refine Ok_c (fun _ => Ok_s (Or.inr rfl)) (fun _ => Ok_B (k_X7_sign (S7 := E) (p1 := gI E 7) s7 (by rw [ez]; exact hz)) (fun r _ => Ok_B (k_X7_isLetter r) (fun _ _ => Ok_c (fun _ => ?_) (fun _ => Ok_s (Or.inr rfl)))))
          exact Ok_B (k_X7_sign (S7 := E) (p1 := gI E 7) s7 (by rw [ez]; exact hz)) (fun r _ => Ok_B (k_X7_isDigit r) (fun _ _ => Ok_c (fun _ => Ok_s (Or.inl rfl)) (fun _ => Ok_s (Or.inr rfl))))
        · have fF : FX S F := by rw [eF]; exact FX_I (by decide) fE
          have q6 : aT F = aT C := by rw [eF]; show (gI (sI E 8 v) 6).toInt = _; rw [gI_ne (by decide)]; exact e6
          have q7 : aE F = aT C + 1 := by rw [eF]; show (gI (sI E 8 v) 7).toInt = _; rw [gI_ne (by decide)]; exact e7
          have q8 : gI F 8 = v := by rw [eF, gI_eq]
          have q9 : gI F 9 = gI E 9 := by rw [eF, gI_ne (by decide)]
          have qz : aZ F = aZ S := by
            show (gI F 3).toInt = (gI S 3).toInt
            rw [FX_i fF (by decide)]
          refine ⟨fF, ⟨by omega, by omega, by omega, by omega, fun q => ?_, fun _ => by omega, fun q => ?_, fun _ => by rw [q9]; exact e9⟩, by omega⟩
          · rw [q8] at q
            rcases hv with rfl | rfl <;> exact absurd q (by decide)
          · rw [q8] at q
            rcases hv with rfl | rfl <;> exact absurd q (by decide)
    · -- a word
      refine Ok_B (Ok_F _ _ (k_X7_next_119 (S := D) (by rw [ezD]; exact hz) (by omega)) (v := D) ⟨FX_r D, rfl, by omega, by omega⟩ (by show (2000 - aE D).toNat < 10000; omega)) (fun E hE => Ok_L (fun F eF => Ok_L (fun v87 e87 => ?_)))
      obtain ⟨d1, d2, d3, d4⟩ := hE
      have fF : FX D F := by rw [eF]; exact FX_L d1
      have f6 : gI F 6 = gI D 6 := by rw [eF, gI_sL]; exact d2
      have fT : aT F = aT D := by show (gI F 6).toInt = (gI D 6).toInt; rw [f6]
      have fE7 : aE F = aE E := by rw [eF]; rfl
      have fz : aZ F = aZ D := by
        show (gI F 3).toInt = (gI D 3).toInt
        rw [FX_i fF (by decide)]
      have fl : gL F 10 = 0 := by rw [eF, gL_sL, if_pos rfl]
      have ev : v87.toInt = aT F := by rw [e87]; rfl
      refine Ok_B (Ok_F _ _ (k_X7_next_170 (S := F) (by omega) (by omega) (by omega) fl) (v := (v87, F)) ⟨⟨by show 0 ≤ v87.toInt; omega, by show v87.toInt ≤ 2000; omega⟩, FX_r F, rfl, rfl, by show aT F ≤ v87.toInt; omega, by show v87.toInt ≤ aE F; omega, fun _ => fl, fun q => ?_⟩ (by show (2000 - v87.toInt).toNat < 10000; omega)) (fun G hG => ?_)
      · have q : v87.toInt = aT F + 1 := q
        omega
      obtain ⟨g1, g2, g3, g4⟩ := hG
      refine Ok_B (k_X7_gateOf _) (fun r98 h98 => Ok_B (P := fun v => v ≠ 0 → 255 < (gL G 10).toInt) ?_ (fun v108 h108 => Ok_B (P := fun v => (v = 1 ∨ v = 2 ∨ v = 3) ∧ (v = 3 → 255 < (gL G 10).toInt)) ?_ (fun v115 h115 => Ok_L (fun H eH => Ok_s ?_))))
      · have t0 : (0 : Int32).toInt = 0 := by decide
        refine Ok_c (fun cc => Ok_s (fun _ => h98.2 (by rw [ti_le, t0] at cc; exact cc))) (fun _ => ?_)
        repeat' (first | exact Ok_s (fun q => absurd rfl q) | refine Ok_c (fun cc => Ok_s (fun _ => by rw [lc_eq.mp cc]; decide)) (fun _ => ?_))
      · refine Ok_c (fun _ => Ok_c (fun _ => Ok_s ⟨Or.inr (Or.inl rfl), fun q => absurd q (by decide)⟩) (fun cc => Ok_s ⟨Or.inr (Or.inr rfl), fun _ => h108 cc⟩)) (fun _ => Ok_s ⟨Or.inl rfl, fun q => absurd q (by decide)⟩)
      · have fG : FX S G := FX_t fD (FX_t fF g1)
        have fH : FX S H := by rw [eH]; exact FX_I (by decide) fG
        have q6 : aT H = aT C := by rw [eH]; show (gI (sI G 8 v115) 6).toInt = _; rw [gI_ne (by decide), g2]; show aT F = aT C; omega
        have q7 : aE H = aE E := by rw [eH]; show (gI (sI G 8 v115) 7).toInt = _; rw [gI_ne (by decide), g3]; exact fE7
        have q8 : gI H 8 = v115 := by rw [eH, gI_eq]
        have qz : aZ H = aZ S := by
          show (gI H 3).toInt = (gI S 3).toInt
          rw [FX_i fH (by decide)]
        refine ⟨fH, ⟨by omega, by omega, by omega, by omega, fun q => ?_, fun _ => by omega, fun q => ?_, fun q => ?_⟩, by omega⟩
        · rw [q8] at q
          rcases h115.1 with e | e | e <;> rw [e] at q <;> exact absurd q (by decide)
        · rw [q8] at q
          have hb := h115.2 q
          rcases Int.lt_or_le (aE F) (aT F + 2) with w | w
          · have := g4 (by omega)
            omega
          · omega
        · rw [q8] at q
          rcases h115.1 with e | e | e <;> rw [e] at q <;> exact absurd q (by decide)
  · -- the end
    refine Ok_L (fun E eE => Ok_L (fun F eF => Ok_L (fun G eG => Ok_s ?_)))
    have fE : FX S E := by rw [eE]; exact FX_I (by decide) fD
    have fF : FX S F := by rw [eF]; exact FX_I (by decide) fE
    have fG : FX S G := by rw [eG]; exact FX_I (by decide) fF
    have z3 : ∀ X, FX S X → (gI X 3).toInt = aZ S := fun X hX => by rw [FX_i hX (by decide)]; rfl
    have q8 : gI G 8 = 0 := by rw [eG, gI_ne (by decide), eF, gI_ne (by decide), eE, gI_eq]
    have q6 : aT G = aZ S := by rw [eG]; show (gI (sI F 7 _) 6).toInt = _; rw [gI_ne (by decide), eF, gI_eq]; exact z3 E fE
    have q7 : aE G = aZ S := by rw [eG]; show (gI (sI F 7 _) 7).toInt = _; rw [gI_eq]; exact z3 F fF
    have qz : aZ G = aZ S := z3 G fG
    refine ⟨fG, ⟨by omega, by omega, by omega, by omega, fun _ => by omega, fun q => absurd q8 q, fun q => ?_, fun q => ?_⟩, by omega⟩
    · rw [q8] at q
      exact absurd q (by decide)
    · rw [q8] at q
      exact absurd q (by decide)
