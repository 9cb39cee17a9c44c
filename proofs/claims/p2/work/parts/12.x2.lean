set_option maxHeartbeats 4000000 in
set_option maxRecDepth 100000 in
theorem s_X2_takenIn (l : Launch) (dC : Nat → ClassId) (dI : Nat → Nat → Nat) (p1 : Int32) (sz : Nat) : Met l yX2_takenIn wsX2_takenIn ({ frames := 0, cells := 0, slots := 0, locals := 0 }) (va_Pc [.int p1] (fun U => U.heap.size = sz ∧ va_P (dC, dI) vwCl [] U.heap ∧ va_K (dC, dI) vwCl [] U ∧ va_D (fun _ => True) [])) (va_Qi (fun (r : Int32) (_ : Unit) => True) (fun (_ : Unit) (t : State) => va_P (dC, dI) vwCl [] t.heap ∧ va_K (dC, dI) vwCl [] t ∧ va_D (va_A [] sz) []) (va_A [] sz)) 0 0 (va_A [] sz) := by
  refine Met.ofW (cc := cX2_takenIn) (maxL := 1) (ret := (some .int)) (by decide +kernel) rfl ?_
  intro p e s m args below meth c s₁ B hml hv
  obtain ⟨rfl, hsz, hP, hK, hD0⟩ := hv
  have hx := B.exec
  have hb := B.bytes
  have hr := B.returns
  have hts := atoms_spec (ws := wsX2_takenIn) B.pre
  have hown : s.vm.findClass RX2 = some m.cls := findClass_of_methodNamed B.named
  have hlocks := B.notSynchronized
  subst hsz
  have hD := hD0.self (sz := s.heap.size)
  generalize hAe : va_A [] s.heap.size = A at hD ⊢
  have hA : ∀ q : Nat, s.heap.size ≤ q → A q := fun q h => by rw [← hAe]; exact Or.inr h
  have hS : va_S A s.heap s.heap [] := va_S.rf
  have hP : va_P (dC, dI) vwCl [] s.heap := hP
  have hl := lv_entry ([.int p1]) (n := 1) (Nat.le_of_ble_eq_true rfl)
  rw [lg_entry_eq]
  generalize (lg_sl ([.int p1]) ++ List.replicate (1 - (lg_sl ([.int p1])).length) Slot.unset).toArray = ls at hl ⊢
  have hl : lv_has ls 1 [(0, .int p1)] := hl
  refine lv_iload_n hx hb dX2_takenIn_0 rfl (lv_at hl 0 rfl) ?_
  refine lv_iconst (v := 3) hx hb dX2_takenIn_1 (by decide) ?_
  refine lv_icmp_ne (tgt := 9) hx hb dX2_takenIn_2 (by decide) (fun cy1 => ?_) (fun cy1 => ?_)
  · have h_cy1 := cy1
    refine lv_iload_n hx hb dX2_takenIn_9 rfl (lv_at hl 0 rfl) ?_
    exact W.iret (v := p1) hx hb hr (fun t ht hW => ⟨⟨p1, (), rfl, trivial, by rw [ht]; exact hP, va_K.moved hW.alike hK, hD⟩, hS.F ht⟩) hS.2.2 dX2_takenIn_10
  · have h_cy1 := cy1
    have by2 : IV 3 3 p1 := IV_eq_l cy1 (IV_top p1) (IV_mk (a := 3) (b := 3) (by decide) (by decide)) (by decide) (by decide)
    refine lv_iconst (v := 2) hx hb dX2_takenIn_5 (by decide) ?_
    refine lv_goto (tgt := 10) hx hb dX2_takenIn_6 (by decide) ?_
    exact W.iret (v := 2) hx hb hr (fun t ht hW => ⟨⟨2, (), rfl, trivial, by rw [ht]; exact hP, va_K.moved hW.alike hK, hD⟩, hS.F ht⟩) hS.2.2 dX2_takenIn_10

set_option maxHeartbeats 4000000 in
set_option maxRecDepth 100000 in
theorem s_X2_isTurned (l : Launch) (dC : Nat → ClassId) (dI : Nat → Nat → Nat) (p1 : Int32) (sz : Nat) : Met l yX2_isTurned wsX2_isTurned ({ frames := 0, cells := 0, slots := 0, locals := 0 }) (va_Pc [.int p1] (fun U => U.heap.size = sz ∧ va_P (dC, dI) vwCl [] U.heap ∧ va_K (dC, dI) vwCl [] U ∧ va_D (fun _ => True) [])) (va_Qi (fun (r : Int32) (_ : Unit) => IV 0 1 r) (fun (_ : Unit) (t : State) => va_P (dC, dI) vwCl [] t.heap ∧ va_K (dC, dI) vwCl [] t ∧ va_D (va_A [] sz) []) (va_A [] sz)) 0 0 (va_A [] sz) := by
  refine Met.ofW (cc := cX2_isTurned) (maxL := 1) (ret := (some .boolean)) (by decide +kernel) rfl ?_
  intro p e s m args below meth c s₁ B hml hv
  obtain ⟨rfl, hsz, hP, hK, hD0⟩ := hv
  have hx := B.exec
  have hb := B.bytes
  have hr := B.returns
  have hts := atoms_spec (ws := wsX2_isTurned) B.pre
  have hown : s.vm.findClass RX2 = some m.cls := findClass_of_methodNamed B.named
  have hlocks := B.notSynchronized
  subst hsz
  have hD := hD0.self (sz := s.heap.size)
  generalize hAe : va_A [] s.heap.size = A at hD ⊢
  have hA : ∀ q : Nat, s.heap.size ≤ q → A q := fun q h => by rw [← hAe]; exact Or.inr h
  have hS : va_S A s.heap s.heap [] := va_S.rf
  have hP : va_P (dC, dI) vwCl [] s.heap := hP
  have hl := lv_entry ([.int p1]) (n := 1) (Nat.le_of_ble_eq_true rfl)
  rw [lg_entry_eq]
  generalize (lg_sl ([.int p1]) ++ List.replicate (1 - (lg_sl ([.int p1])).length) Slot.unset).toArray = ls at hl ⊢
  have hl : lv_has ls 1 [(0, .int p1)] := hl
  refine lv_iload_n hx hb dX2_isTurned_0 rfl (lv_at hl 0 rfl) ?_
  refine lv_iconst (v := 1) hx hb dX2_isTurned_1 (by decide) ?_
  refine lv_iand hx hb dX2_isTurned_2 ?_
  refine lv_topi (fun zy1 ezy1 => ?_)
  have by2 : IV 0 1 zy1 := IV_and 1 ezy1 (by decide) (by decide) (by decide) (by decide)
  refine lv_iconst (v := 1) hx hb dX2_isTurned_3 (by decide) ?_
  refine lv_icmp_ne (tgt := 11) hx hb dX2_isTurned_4 (by decide) (fun cy3 => ?_) (fun cy3 => ?_)
  · have h_cy3 := cy3
    have by4 : IV 0 0 zy1 := IV_ne_hi cy3 by2 (IV_mk (a := 1) (b := 1) (by decide) (by decide)) (by decide) (by decide) (by decide)
    refine lv_iconst (v := 0) hx hb dX2_isTurned_11 (by decide) ?_
    exact W.zret (v := 0) hx hb hr (by decide) (fun t ht hW => ⟨⟨0, (), rfl, (IV_mk (by decide) (by decide)), by rw [ht]; exact hP, va_K.moved hW.alike hK, hD⟩, hS.F ht⟩) hS.2.2 dX2_isTurned_12
  · have h_cy3 := cy3
    have by5 : IV 1 1 zy1 := IV_eq_l cy3 by2 (IV_mk (a := 1) (b := 1) (by decide) (by decide)) (by decide) (by decide)
    refine lv_iconst (v := 1) hx hb dX2_isTurned_7 (by decide) ?_
    refine lv_goto (tgt := 12) hx hb dX2_isTurned_8 (by decide) ?_
    exact W.zret (v := 1) hx hb hr (by decide) (fun t ht hW => ⟨⟨1, (), rfl, (IV_mk (by decide) (by decide)), by rw [ht]; exact hP, va_K.moved hW.alike hK, hD⟩, hS.F ht⟩) hS.2.2 dX2_isTurned_12

set_option maxHeartbeats 4000000 in
set_option maxRecDepth 100000 in
theorem s_X2_plainValue (l : Launch) (dC : Nat → ClassId) (dI : Nat → Nat → Nat) (p1 : Int32) (p2 : Int32) (p3 : Int32) (p4 : Int32) (sz : Nat) : Met l yX2_plainValue wsX2_plainValue ({ frames := 0, cells := 0, slots := 0, locals := 0 }) (va_Pc [.int p1, .int p2, .int p3, .int p4] (fun U => U.heap.size = sz ∧ va_P (dC, dI) vwCl [] U.heap ∧ va_K (dC, dI) vwCl [] U ∧ va_D (fun _ => True) [])) (va_Qi (fun (r : Int32) (_ : Unit) => IV 0 2 r) (fun (_ : Unit) (t : State) => va_P (dC, dI) vwCl [] t.heap ∧ va_K (dC, dI) vwCl [] t ∧ va_D (va_A [] sz) []) (va_A [] sz)) 0 0 (va_A [] sz) := by
  refine Met.ofW (cc := cX2_plainValue) (maxL := 5) (ret := (some .int)) (by decide +kernel) rfl ?_
  intro p e s m args below meth c s₁ B hml hv
  obtain ⟨rfl, hsz, hP, hK, hD0⟩ := hv
  have hx := B.exec
  have hb := B.bytes
  have hr := B.returns
  have hts := atoms_spec (ws := wsX2_plainValue) B.pre
  have hown : s.vm.findClass RX2 = some m.cls := findClass_of_methodNamed B.named
  have hlocks := B.notSynchronized
  subst hsz
  have hD := hD0.self (sz := s.heap.size)
  generalize hAe : va_A [] s.heap.size = A at hD ⊢
  have hA : ∀ q : Nat, s.heap.size ≤ q → A q := fun q h => by rw [← hAe]; exact Or.inr h
  have hS : va_S A s.heap s.heap [] := va_S.rf
  have hP : va_P (dC, dI) vwCl [] s.heap := hP
  have hl := lv_entry ([.int p1, .int p2, .int p3, .int p4]) (n := 5) (Nat.le_of_ble_eq_true rfl)
  rw [lg_entry_eq]
  generalize (lg_sl ([.int p1, .int p2, .int p3, .int p4]) ++ List.replicate (5 - (lg_sl ([.int p1, .int p2, .int p3, .int p4])).length) Slot.unset).toArray = ls at hl ⊢
  have hl : lv_has ls 5 [(0, .int p1), (1, .int p2), (2, .int p3), (3, .int p4)] := hl
  refine lv_iload_n hx hb dX2_plainValue_0 rfl (lv_at hl 1 rfl) ?_
  refine lv_iload_n hx hb dX2_plainValue_1 rfl (lv_at hl 2 rfl) ?_
  refine lv_iadd hx hb dX2_plainValue_2 ?_
  refine lv_topi (fun zy1 ezy1 => ?_)
  refine lv_iload_n hx hb dX2_plainValue_3 rfl (lv_at hl 3 rfl) ?_
  refine W_abs (fun GWy4 eGy5 => ?_)
  have jny6 : ∀ (my3 : Int32) (HGWy4 : Heap) (locs : List Loc) (ls : Array Slot), IV 0 1 my3 → va_P (dC, dI) vwCl [] HGWy4 → va_D A [] → va_S A s.heap HGWy4 locs → lv_has ls 5 [(0, .int p1), (1, .int p2), (2, .int p3), (3, .int p4)] → GWy4 HGWy4 locs 0 0 (F0 m 12 ls [.int my3]) := by
    intro my3 HGWy4 locs ls hmy3 hP hD hS hl
    refine (eGy5 _ _ _ _ _).mpr ?_
    refine lv_istore (lv' := [(4, .int my3), (0, .int p1), (1, .int p2), (2, .int p3), (3, .int p4)]) hx hb dX2_plainValue_12 hl (by decide) rfl (fun ls hl => ?_)
    refine lv_iload_n hx hb dX2_plainValue_14 rfl (lv_at hl 1 rfl) ?_
    by_cases ky7 : p1 = 2
    · have kk := ky7
      refine lv_lookup (off := 25) (tgt := 40) hx hb dX2_plainValue_15 (by decide) (by rw [ky7]; rfl) (by decide) ?_
      refine lv_iload_n hx hb dX2_plainValue_40 rfl (lv_at hl 3 rfl) ?_
      refine lv_if_le (tgt := 48) hx hb dX2_plainValue_41 (by decide) (fun cy8 => ?_) (fun cy8 => ?_)
      · have h_cy8 := cy8
        have by9 : IV (-2147483648) 0 p3 := IV_le_l cy8 (IV_top p3) (IV_mk (a := 0) (b := 0) (by decide) (by decide)) (by decide) (by decide)
        refine lv_iload hx hb dX2_plainValue_48 (lv_at hl 0 rfl) ?_
        refine lv_if_eq (tgt := 57) hx hb dX2_plainValue_50 (by decide) (fun cy10 => ?_) (fun cy10 => ?_)
        · have h_cy10 := cy10
          have by11 : IV 0 0 my3 := IV_eq_l cy10 hmy3 (IV_mk (a := 0) (b := 0) (by decide) (by decide)) (by decide) (by decide)
          refine lv_iconst (v := 2) hx hb dX2_plainValue_57 (by decide) ?_
          exact W.iret (v := 2) hx hb hr (fun t ht hW => ⟨⟨2, (), rfl, (IV_mk (by decide) (by decide)), by rw [ht]; exact hP, va_K.moved hW.alike hK, hD⟩, hS.F ht⟩) hS.2.2 dX2_plainValue_58
        · have h_cy10 := cy10
          have by12 : IV 1 1 my3 := IV_ne_lo cy10 hmy3 (IV_mk (a := 0) (b := 0) (by decide) (by decide)) (by decide) (by decide) (by decide)
          refine lv_iconst (v := 0) hx hb dX2_plainValue_53 (by decide) ?_
          refine lv_goto (tgt := 58) hx hb dX2_plainValue_54 (by decide) ?_
          exact W.iret (v := 0) hx hb hr (fun t ht hW => ⟨⟨0, (), rfl, (IV_mk (by decide) (by decide)), by rw [ht]; exact hP, va_K.moved hW.alike hK, hD⟩, hS.F ht⟩) hS.2.2 dX2_plainValue_58
      · have h_cy8 := cy8
        have by13 : IV 1 2147483647 p3 := IV_nle_l cy8 (IV_top p3) (IV_mk (a := 0) (b := 0) (by decide) (by decide)) (by decide) (by decide)
        refine lv_iconst (v := 1) hx hb dX2_plainValue_44 (by decide) ?_
        refine lv_goto (tgt := 58) hx hb dX2_plainValue_45 (by decide) ?_
        exact W.iret (v := 1) hx hb hr (fun t ht hW => ⟨⟨1, (), rfl, (IV_mk (by decide) (by decide)), by rw [ht]; exact hP, va_K.moved hW.alike hK, hD⟩, hS.F ht⟩) hS.2.2 dX2_plainValue_58
    by_cases ky14 : p1 = 4
    · have kk := ky14
      refine lv_lookup (off := 44) (tgt := 59) hx hb dX2_plainValue_15 (by decide) (by rw [ky14]; rfl) (by decide) ?_
      refine lv_iload hx hb dX2_plainValue_59 (lv_at hl 0 rfl) ?_
      refine lv_if_eq (tgt := 70) hx hb dX2_plainValue_61 (by decide) (fun cy15 => ?_) (fun cy15 => ?_)
      · have h_cy15 := cy15
        have by16 : IV 0 0 my3 := IV_eq_l cy15 hmy3 (IV_mk (a := 0) (b := 0) (by decide) (by decide)) (by decide) (by decide)
        refine lv_iconst (v := 2) hx hb dX2_plainValue_70 (by decide) ?_
        exact W.iret (v := 2) hx hb hr (fun t ht hW => ⟨⟨2, (), rfl, (IV_mk (by decide) (by decide)), by rw [ht]; exact hP, va_K.moved hW.alike hK, hD⟩, hS.F ht⟩) hS.2.2 dX2_plainValue_71
      · have h_cy15 := cy15
        have by17 : IV 1 1 my3 := IV_ne_lo cy15 hmy3 (IV_mk (a := 0) (b := 0) (by decide) (by decide)) (by decide) (by decide) (by decide)
        refine lv_iload_n hx hb dX2_plainValue_64 rfl (lv_at hl 3 rfl) ?_
        refine lv_iconst (v := 1) hx hb dX2_plainValue_65 (by decide) ?_
        refine lv_iand hx hb dX2_plainValue_66 ?_
        refine lv_topi (fun zy18 ezy18 => ?_)
        have by19 : IV 0 1 zy18 := IV_and 1 ezy18 (by decide) (by decide) (by decide) (by decide)
        refine lv_goto (tgt := 71) hx hb dX2_plainValue_67 (by decide) ?_
        exact W.iret (v := zy18) hx hb hr (fun t ht hW => ⟨⟨zy18, (), rfl, (IV_wk by19 (by decide) (by decide)), by rw [ht]; exact hP, va_K.moved hW.alike hK, hD⟩, hS.F ht⟩) hS.2.2 dX2_plainValue_71
    refine lv_lookup (off := 57) (tgt := 72) hx hb dX2_plainValue_15 (by decide) ((lv_osw ky7 (by decide)).trans ((lv_osw ky14 (by decide)).trans rfl)) (by decide) ?_
    refine lv_iload_n hx hb dX2_plainValue_72 rfl (lv_at hl 2 rfl) ?_
    refine lv_if_le (tgt := 80) hx hb dX2_plainValue_73 (by decide) (fun cy20 => ?_) (fun cy20 => ?_)
    · have h_cy20 := cy20
      have by21 : IV (-2147483648) 0 p2 := IV_le_l cy20 (IV_top p2) (IV_mk (a := 0) (b := 0) (by decide) (by decide)) (by decide) (by decide)
      refine lv_iload hx hb dX2_plainValue_80 (lv_at hl 0 rfl) ?_
      refine lv_if_eq (tgt := 89) hx hb dX2_plainValue_82 (by decide) (fun cy22 => ?_) (fun cy22 => ?_)
      · have h_cy22 := cy22
        have by23 : IV 0 0 my3 := IV_eq_l cy22 hmy3 (IV_mk (a := 0) (b := 0) (by decide) (by decide)) (by decide) (by decide)
        refine lv_iconst (v := 2) hx hb dX2_plainValue_89 (by decide) ?_
        exact W.iret (v := 2) hx hb hr (fun t ht hW => ⟨⟨2, (), rfl, (IV_mk (by decide) (by decide)), by rw [ht]; exact hP, va_K.moved hW.alike hK, hD⟩, hS.F ht⟩) hS.2.2 dX2_plainValue_90
      · have h_cy22 := cy22
        have by24 : IV 1 1 my3 := IV_ne_lo cy22 hmy3 (IV_mk (a := 0) (b := 0) (by decide) (by decide)) (by decide) (by decide) (by decide)
        refine lv_iconst (v := 1) hx hb dX2_plainValue_85 (by decide) ?_
        refine lv_goto (tgt := 90) hx hb dX2_plainValue_86 (by decide) ?_
        exact W.iret (v := 1) hx hb hr (fun t ht hW => ⟨⟨1, (), rfl, (IV_mk (by decide) (by decide)), by rw [ht]; exact hP, va_K.moved hW.alike hK, hD⟩, hS.F ht⟩) hS.2.2 dX2_plainValue_90
    · have h_cy20 := cy20
      have by25 : IV 1 2147483647 p2 := IV_nle_l cy20 (IV_top p2) (IV_mk (a := 0) (b := 0) (by decide) (by decide)) (by decide) (by decide)
      refine lv_iconst (v := 0) hx hb dX2_plainValue_76 (by decide) ?_
      refine lv_goto (tgt := 90) hx hb dX2_plainValue_77 (by decide) ?_
      exact W.iret (v := 0) hx hb hr (fun t ht hW => ⟨⟨0, (), rfl, (IV_mk (by decide) (by decide)), by rw [ht]; exact hP, va_K.moved hW.alike hK, hD⟩, hS.F ht⟩) hS.2.2 dX2_plainValue_90
  refine (eGy5 _ _ _ _ _).mpr ?_
  refine lv_icmp_ne (tgt := 11) hx hb dX2_plainValue_4 (by decide) (fun cy2 => ?_) (fun cy2 => ?_)
  · have h_cy2 := cy2
    refine lv_iconst (v := 0) hx hb dX2_plainValue_11 (by decide) ?_
    exact (eGy5 _ _ _ _ _).mp (jny6 0 _ _ _ (IV_mk (by decide) (by decide)) hP hD hS (lv_sub hl [0, 1, 2, 3] rfl))
  · have h_cy2 := cy2
    refine lv_iconst (v := 1) hx hb dX2_plainValue_7 (by decide) ?_
    refine lv_goto (tgt := 12) hx hb dX2_plainValue_8 (by decide) ?_
    exact (eGy5 _ _ _ _ _).mp (jny6 1 _ _ _ (IV_mk (by decide) (by decide)) hP hD hS (lv_sub hl [0, 1, 2, 3] rfl))

set_option maxHeartbeats 4000000 in
set_option maxRecDepth 100000 in
theorem s_X2_muxValue (l : Launch) (dC : Nat → ClassId) (dI : Nat → Nat → Nat) (h0 : Nat) (h0_7 : Nat) (a3 : Nat) (h0_0 : Int32) (h0_1 : Int32) (h0_2 : Nat) (h0_3 : Nat) (h0_4 : Nat) (h0_5 : Nat) (h0_6 : Nat) (h0_8 : Nat) (h0_9 : Nat) (h0_10 : Nat) (h0_11 : Nat) (h0_12 : Nat) (yh0_7 : ClassId) (fh0_7 : Nat → Int32) (ya3 : ClassId) (fa3 : Nat → Int32) (p1 : Int32) (sz : Nat) (hy_h0_0 : IV 0 60 h0_0) (hy_p1 : IV 0 59 p1) (hy_fh0_7 : AR 0 59 fh0_7) : Met l yX2_muxValue wsX2_muxValue ({ frames := 1, cells := 0, slots := 0, locals := 22 }) (va_Pc [.ref h0, .int p1, .ref a3] (fun U => U.heap.size = sz ∧ va_P (dC, dI) vwCl [(h0, .inr (0, [.int h0_0, .int h0_1, .ref h0_2, .ref h0_3, .ref h0_4, .ref h0_5, .ref h0_6, .ref h0_7, .ref h0_8, .ref h0_9, .ref h0_10, .ref h0_11, .ref h0_12])), (h0_7, .inl (yh0_7, 720, .inl fh0_7)), (a3, .inl (ya3, 60, .inl fa3))] U.heap ∧ va_K (dC, dI) vwCl [(yh0_7, .int), (ya3, .int)] U ∧ va_D (fun _ => True) [(h0, .inr (0, [.int h0_0, .int h0_1, .ref h0_2, .ref h0_3, .ref h0_4, .ref h0_5, .ref h0_6, .ref h0_7, .ref h0_8, .ref h0_9, .ref h0_10, .ref h0_11, .ref h0_12])), (h0_7, .inl (yh0_7, 720, .inl fh0_7)), (a3, .inl (ya3, 60, .inl fa3))])) (va_Qi (fun (r : Int32) (_ : Unit) => True) (fun (_ : Unit) (t : State) => va_P (dC, dI) vwCl [(h0, .inr (0, [.int h0_0, .int h0_1, .ref h0_2, .ref h0_3, .ref h0_4, .ref h0_5, .ref h0_6, .ref h0_7, .ref h0_8, .ref h0_9, .ref h0_10, .ref h0_11, .ref h0_12])), (h0_7, .inl (yh0_7, 720, .inl fh0_7)), (a3, .inl (ya3, 60, .inl fa3))] t.heap ∧ va_K (dC, dI) vwCl [(yh0_7, .int), (ya3, .int)] t ∧ va_D (va_A [(h0, .inr (0, [.int h0_0, .int h0_1, .ref h0_2, .ref h0_3, .ref h0_4, .ref h0_5, .ref h0_6, .ref h0_7, .ref h0_8, .ref h0_9, .ref h0_10, .ref h0_11, .ref h0_12])), (h0_7, .inl (yh0_7, 720, .inl fh0_7)), (a3, .inl (ya3, 60, .inl fa3))] sz) [(h0, .inr (0, [.int h0_0, .int h0_1, .ref h0_2, .ref h0_3, .ref h0_4, .ref h0_5, .ref h0_6, .ref h0_7, .ref h0_8, .ref h0_9, .ref h0_10, .ref h0_11, .ref h0_12])), (h0_7, .inl (yh0_7, 720, .inl fh0_7)), (a3, .inl (ya3, 60, .inl fa3))]) (va_A [(h0, .inr (0, [.int h0_0, .int h0_1, .ref h0_2, .ref h0_3, .ref h0_4, .ref h0_5, .ref h0_6, .ref h0_7, .ref h0_8, .ref h0_9, .ref h0_10, .ref h0_11, .ref h0_12])), (h0_7, .inl (yh0_7, 720, .inl fh0_7)), (a3, .inl (ya3, 60, .inl fa3))] sz)) 0 0 (va_A [(h0, .inr (0, [.int h0_0, .int h0_1, .ref h0_2, .ref h0_3, .ref h0_4, .ref h0_5, .ref h0_6, .ref h0_7, .ref h0_8, .ref h0_9, .ref h0_10, .ref h0_11, .ref h0_12])), (h0_7, .inl (yh0_7, 720, .inl fh0_7)), (a3, .inl (ya3, 60, .inl fa3))] sz) := by
  refine Met.ofW (cc := cX2_muxValue) (maxL := 6) (ret := (some .int)) (by decide +kernel) rfl ?_
  intro p e s m args below meth c s₁ B hml hv
  obtain ⟨rfl, hsz, hP, hK, hD0⟩ := hv
  have hx := B.exec
  have hb := B.bytes
  have hr := B.returns
  have hts := atoms_spec (ws := wsX2_muxValue) B.pre
  have hown : s.vm.findClass RX2 = some m.cls := findClass_of_methodNamed B.named
  have hlocks := B.notSynchronized
  subst hsz
  have hD := hD0.self (sz := s.heap.size)
  generalize hAe : va_A [(h0, .inr (0, [.int h0_0, .int h0_1, .ref h0_2, .ref h0_3, .ref h0_4, .ref h0_5, .ref h0_6, .ref h0_7, .ref h0_8, .ref h0_9, .ref h0_10, .ref h0_11, .ref h0_12])), (h0_7, .inl (yh0_7, 720, .inl fh0_7)), (a3, .inl (ya3, 60, .inl fa3))] s.heap.size = A at hD ⊢
  have hA : ∀ q : Nat, s.heap.size ≤ q → A q := fun q h => by rw [← hAe]; exact Or.inr h
  have hS : va_S A s.heap s.heap [] := va_S.rf
  have hP : va_P (dC, dI) vwCl [(h0, .inr (0, [.int h0_0, .int h0_1, .ref h0_2, .ref h0_3, .ref h0_4, .ref h0_5, .ref h0_6, .ref h0_7, .ref h0_8, .ref h0_9, .ref h0_10, .ref h0_11, .ref h0_12])), (h0_7, .inl (yh0_7, 720, .inl fh0_7)), (a3, .inl (ya3, 60, .inl fa3))] s.heap := hP
  have hl := lv_entry ([.ref h0, .int p1, .ref a3]) (n := 6) (Nat.le_of_ble_eq_true rfl)
  rw [lg_entry_eq]
  generalize (lg_sl ([.ref h0, .int p1, .ref a3]) ++ List.replicate (6 - (lg_sl ([.ref h0, .int p1, .ref a3])).length) Slot.unset).toArray = ls at hl ⊢
  have hl : lv_has ls 6 [(0, .ref h0), (1, .int p1), (2, .ref a3)] := hl
  refine lv_aload_n hx hb dX2_muxValue_0 rfl (lv_at hl 2 rfl) ?_
  refine lv_aload_n hx hb dX2_muxValue_1 rfl (lv_at hl 0 rfl) ?_
  refine lv_iload_n hx hb dX2_muxValue_2 rfl (lv_at hl 1 rfl) ?_
  refine lv_iconst (v := 0) hx hb dX2_muxValue_3 (by decide) ?_
  have hPc := hP.sub (ws' := [(h0, .inr (0, [.int h0_0, .int h0_1, .ref h0_2, .ref h0_3, .ref h0_4, .ref h0_5, .ref h0_6, .ref h0_7, .ref h0_8, .ref h0_9, .ref h0_10, .ref h0_11, .ref h0_12])), (h0_7, .inl (yh0_7, 720, .inl fh0_7))]) [0, 1] rfl
  have hDc := hD.sub (ws' := [(h0, .inr (0, [.int h0_0, .int h0_1, .ref h0_2, .ref h0_3, .ref h0_4, .ref h0_5, .ref h0_6, .ref h0_7, .ref h0_8, .ref h0_9, .ref h0_10, .ref h0_11, .ref h0_12])), (h0_7, .inl (yh0_7, 720, .inl fh0_7))]) [0, 1] (by decide) rfl
  have hKc := hK.sub (tys' := [(yh0_7, .int)]) [0] rfl
  have hFc := va_free (wc := [(h0, .inr (0, [.int h0_0, .int h0_1, .ref h0_2, .ref h0_3, .ref h0_4, .ref h0_5, .ref h0_6, .ref h0_7, .ref h0_8, .ref h0_9, .ref h0_10, .ref h0_11, .ref h0_12])), (h0_7, .inl (yh0_7, 720, .inl fh0_7))]) hD hS hA [0, 1] rfl
  refine va_calli (va_runV (As := [.int p1, .int 0]) (rest := [.ref a3]) ⟨hx, hb, hml, hown, hts⟩ (s_X0_part l dC dI h0 h0_7 h0_0 h0_1 h0_2 h0_3 h0_4 h0_5 h0_6 h0_8 h0_9 h0_10 h0_11 h0_12 yh0_7 fh0_7 p1 0 s.heap.size hy_h0_0 hy_p1 (IV_mk (by decide) (by decide)) hy_fh0_7) (cwV 2 hts gX2_muxValue_X0_part rfl rfl rfl (by decide +kernel) ⟨Nat.le_of_ble_eq_true rfl, Nat.le_of_ble_eq_true rfl⟩) ⟨fun a U g mk q => by obtain ⟨q0, q1, qP, qK, qD⟩ := q; exact ⟨q0, q1, qP, va_K.moved (u := U) (U := U.calling g mk a) (Vm.Alike.refl U.vm) qK, qD⟩, va_recv hKc hPc (ci := 0) (q0 := 0) rfl rfl, fun U hU hW => ⟨rfl, by rw [hU], by rw [hU]; exact hPc, va_K.moved hW.alike hKc, hDc.weaken (fun _ _ _ _ => trivial)⟩⟩ rfl rfl hl.1 rfl (lv_room (Nat.le_of_ble_eq_true rfl)) dX2_muxValue_4 ⟨Nat.le_of_ble_eq_true rfl, Nat.le_of_ble_eq_true rfl⟩) hS (fun q _ h => hFc q h) hFc (fun ry2 u t Hy1 locs ht hvm hw hB hz1 hk1 hS => ?_)
  obtain ⟨hP1, hK1, hD1⟩ := hB
  rw [ht] at hP1
  obtain ⟨hP, hD⟩ := va_join (wr := [(a3, .inl (ya3, 60, .inl fa3))]) (w1 := [(h0, .inr (0, [.int h0_0, .int h0_1, .ref h0_2, .ref h0_3, .ref h0_4, .ref h0_5, .ref h0_6, .ref h0_7, .ref h0_8, .ref h0_9, .ref h0_10, .ref h0_11, .ref h0_12])), (h0_7, .inl (yh0_7, 720, .inl fh0_7))]) hP hD [0, 1] [2] rfl rfl (by decide) (by decide) hk1 hFc hP1 hD1
  have hP := hP.sub (ws' := [(h0, .inr (0, [.int h0_0, .int h0_1, .ref h0_2, .ref h0_3, .ref h0_4, .ref h0_5, .ref h0_6, .ref h0_7, .ref h0_8, .ref h0_9, .ref h0_10, .ref h0_11, .ref h0_12])), (h0_7, .inl (yh0_7, 720, .inl fh0_7)), (a3, .inl (ya3, 60, .inl fa3))]) [1, 2, 0] rfl
  have hD := hD.sub (ws' := [(h0, .inr (0, [.int h0_0, .int h0_1, .ref h0_2, .ref h0_3, .ref h0_4, .ref h0_5, .ref h0_6, .ref h0_7, .ref h0_8, .ref h0_9, .ref h0_10, .ref h0_11, .ref h0_12])), (h0_7, .inl (yh0_7, 720, .inl fh0_7)), (a3, .inl (ya3, 60, .inl fa3))]) [1, 2, 0] (by decide) rfl
  have hP : va_P (dC, dI) vwCl [(h0, .inr (0, [.int h0_0, .int h0_1, .ref h0_2, .ref h0_3, .ref h0_4, .ref h0_5, .ref h0_6, .ref h0_7, .ref h0_8, .ref h0_9, .ref h0_10, .ref h0_11, .ref h0_12])), (h0_7, .inl (yh0_7, 720, .inl fh0_7)), (a3, .inl (ya3, 60, .inl fa3))] Hy1 := hP
  have hD : va_D A [(h0, .inr (0, [.int h0_0, .int h0_1, .ref h0_2, .ref h0_3, .ref h0_4, .ref h0_5, .ref h0_6, .ref h0_7, .ref h0_8, .ref h0_9, .ref h0_10, .ref h0_11, .ref h0_12])), (h0_7, .inl (yh0_7, 720, .inl fh0_7)), (a3, .inl (ya3, 60, .inl fa3))] := hD
  have by3 : IV 0 59 ry2 := hw
  refine va_iald hx hb hK hP 2 1 rfl rfl (IV_in by3 (by decide) (by decide)) dX2_muxValue_7 ?_
  refine lv_topi (fun zy4 ezy4 => ?_)
  refine lv_istore_n (lv' := [(3, .int zy4), (0, .ref h0), (1, .int p1), (2, .ref a3)]) hx hb dX2_muxValue_8 rfl hl (by decide) rfl (fun ls hl => ?_)
  refine lv_aload_n hx hb dX2_muxValue_9 rfl (lv_at hl 3 rfl) ?_
  refine lv_aload_n hx hb dX2_muxValue_10 rfl (lv_at hl 1 rfl) ?_
  refine lv_iload_n hx hb dX2_muxValue_11 rfl (lv_at hl 2 rfl) ?_
  refine lv_iconst (v := 1) hx hb dX2_muxValue_12 (by decide) ?_
  have hPc := hP.sub (ws' := [(h0, .inr (0, [.int h0_0, .int h0_1, .ref h0_2, .ref h0_3, .ref h0_4, .ref h0_5, .ref h0_6, .ref h0_7, .ref h0_8, .ref h0_9, .ref h0_10, .ref h0_11, .ref h0_12])), (h0_7, .inl (yh0_7, 720, .inl fh0_7))]) [0, 1] rfl
  have hDc := hD.sub (ws' := [(h0, .inr (0, [.int h0_0, .int h0_1, .ref h0_2, .ref h0_3, .ref h0_4, .ref h0_5, .ref h0_6, .ref h0_7, .ref h0_8, .ref h0_9, .ref h0_10, .ref h0_11, .ref h0_12])), (h0_7, .inl (yh0_7, 720, .inl fh0_7))]) [0, 1] (by decide) rfl
  have hKc := hK.sub (tys' := [(yh0_7, .int)]) [0] rfl
  have hFc := va_free (wc := [(h0, .inr (0, [.int h0_0, .int h0_1, .ref h0_2, .ref h0_3, .ref h0_4, .ref h0_5, .ref h0_6, .ref h0_7, .ref h0_8, .ref h0_9, .ref h0_10, .ref h0_11, .ref h0_12])), (h0_7, .inl (yh0_7, 720, .inl fh0_7))]) hD hS hA [0, 1] rfl
  refine va_calli (va_runV (As := [.int p1, .int 1]) (rest := [.ref a3]) ⟨hx, hb, hml, hown, hts⟩ (s_X0_part l dC dI h0 h0_7 h0_0 h0_1 h0_2 h0_3 h0_4 h0_5 h0_6 h0_8 h0_9 h0_10 h0_11 h0_12 yh0_7 fh0_7 p1 1 Hy1.size hy_h0_0 hy_p1 (IV_mk (by decide) (by decide)) hy_fh0_7) (cwV 2 hts gX2_muxValue_X0_part rfl rfl rfl (by decide +kernel) ⟨Nat.le_of_ble_eq_true rfl, Nat.le_of_ble_eq_true rfl⟩) ⟨fun a U g mk q => by obtain ⟨q0, q1, qP, qK, qD⟩ := q; exact ⟨q0, q1, qP, va_K.moved (u := U) (U := U.calling g mk a) (Vm.Alike.refl U.vm) qK, qD⟩, va_recv hKc hPc (ci := 0) (q0 := 0) rfl rfl, fun U hU hW => ⟨rfl, by rw [hU], by rw [hU]; exact hPc, va_K.moved hW.alike hKc, hDc.weaken (fun _ _ _ _ => trivial)⟩⟩ rfl rfl hl.1 rfl (lv_room (Nat.le_of_ble_eq_true rfl)) dX2_muxValue_13 ⟨Nat.le_of_ble_eq_true rfl, Nat.le_of_ble_eq_true rfl⟩) hS (fun q _ h => hFc q h) hFc (fun ry6 u t Hy5 locs ht hvm hw hB hz1 hk1 hS => ?_)
  obtain ⟨hP1, hK1, hD1⟩ := hB
  rw [ht] at hP1
  obtain ⟨hP, hD⟩ := va_join (wr := [(a3, .inl (ya3, 60, .inl fa3))]) (w1 := [(h0, .inr (0, [.int h0_0, .int h0_1, .ref h0_2, .ref h0_3, .ref h0_4, .ref h0_5, .ref h0_6, .ref h0_7, .ref h0_8, .ref h0_9, .ref h0_10, .ref h0_11, .ref h0_12])), (h0_7, .inl (yh0_7, 720, .inl fh0_7))]) hP hD [0, 1] [2] rfl rfl (by decide) (by decide) hk1 hFc hP1 hD1
  have hP := hP.sub (ws' := [(h0, .inr (0, [.int h0_0, .int h0_1, .ref h0_2, .ref h0_3, .ref h0_4, .ref h0_5, .ref h0_6, .ref h0_7, .ref h0_8, .ref h0_9, .ref h0_10, .ref h0_11, .ref h0_12])), (h0_7, .inl (yh0_7, 720, .inl fh0_7)), (a3, .inl (ya3, 60, .inl fa3))]) [1, 2, 0] rfl
  have hD := hD.sub (ws' := [(h0, .inr (0, [.int h0_0, .int h0_1, .ref h0_2, .ref h0_3, .ref h0_4, .ref h0_5, .ref h0_6, .ref h0_7, .ref h0_8, .ref h0_9, .ref h0_10, .ref h0_11, .ref h0_12])), (h0_7, .inl (yh0_7, 720, .inl fh0_7)), (a3, .inl (ya3, 60, .inl fa3))]) [1, 2, 0] (by decide) rfl
  have hP : va_P (dC, dI) vwCl [(h0, .inr (0, [.int h0_0, .int h0_1, .ref h0_2, .ref h0_3, .ref h0_4, .ref h0_5, .ref h0_6, .ref h0_7, .ref h0_8, .ref h0_9, .ref h0_10, .ref h0_11, .ref h0_12])), (h0_7, .inl (yh0_7, 720, .inl fh0_7)), (a3, .inl (ya3, 60, .inl fa3))] Hy5 := hP
  have hD : va_D A [(h0, .inr (0, [.int h0_0, .int h0_1, .ref h0_2, .ref h0_3, .ref h0_4, .ref h0_5, .ref h0_6, .ref h0_7, .ref h0_8, .ref h0_9, .ref h0_10, .ref h0_11, .ref h0_12])), (h0_7, .inl (yh0_7, 720, .inl fh0_7)), (a3, .inl (ya3, 60, .inl fa3))] := hD
  have by7 : IV 0 59 ry6 := hw
  refine va_iald hx hb hK hP 2 1 rfl rfl (IV_in by7 (by decide) (by decide)) dX2_muxValue_16 ?_
  refine lv_topi (fun zy8 ezy8 => ?_)
  have hPc := hP.sub (ws' := []) [] rfl
  have hDc := hD.sub (ws' := []) [] (by decide) rfl
  have hKc := hK.sub (tys' := []) [] rfl
  have hFc := va_free (wc := []) hD hS hA [] rfl
  refine va_calli (va_runS (As := [.int zy8]) (rest := []) ⟨hx, hb, hml, hown, hts⟩ (s_X2_takenIn l dC dI zy8 Hy5.size) (va_cwS 1 hts gX2_muxValue_X2_takenIn rfl rfl rfl (by decide +kernel) ⟨Nat.le_of_ble_eq_true rfl, Nat.le_of_ble_eq_true rfl⟩) ⟨fun a U g mk q => by obtain ⟨q0, q1, qP, qK, qD⟩ := q; exact ⟨q0, q1, qP, va_K.moved (u := U) (U := U.calling g mk a) (Vm.Alike.refl U.vm) qK, qD⟩, fun U hU hW => ⟨rfl, by rw [hU], by rw [hU]; exact hPc, va_K.moved hW.alike hKc, hDc.weaken (fun _ _ _ _ => trivial)⟩⟩ rfl rfl hl.1 rfl (lv_room (Nat.le_of_ble_eq_true rfl)) dX2_muxValue_17 ⟨Nat.le_of_ble_eq_true rfl, Nat.le_of_ble_eq_true rfl⟩) hS (fun q _ h => hFc q h) hFc (fun ry10 u t Hy9 locs ht hvm hw hB hz1 hk1 hS => ?_)
  obtain ⟨hP1, hK1, hD1⟩ := hB
  rw [ht] at hP1
  obtain ⟨hP, hD⟩ := va_join (wr := [(h0, .inr (0, [.int h0_0, .int h0_1, .ref h0_2, .ref h0_3, .ref h0_4, .ref h0_5, .ref h0_6, .ref h0_7, .ref h0_8, .ref h0_9, .ref h0_10, .ref h0_11, .ref h0_12])), (h0_7, .inl (yh0_7, 720, .inl fh0_7)), (a3, .inl (ya3, 60, .inl fa3))]) (w1 := []) hP hD [] [0, 1, 2] rfl rfl (by decide) (by decide) hk1 hFc hP1 hD1
  have hP : va_P (dC, dI) vwCl [(h0, .inr (0, [.int h0_0, .int h0_1, .ref h0_2, .ref h0_3, .ref h0_4, .ref h0_5, .ref h0_6, .ref h0_7, .ref h0_8, .ref h0_9, .ref h0_10, .ref h0_11, .ref h0_12])), (h0_7, .inl (yh0_7, 720, .inl fh0_7)), (a3, .inl (ya3, 60, .inl fa3))] Hy9 := hP
  have hD : va_D A [(h0, .inr (0, [.int h0_0, .int h0_1, .ref h0_2, .ref h0_3, .ref h0_4, .ref h0_5, .ref h0_6, .ref h0_7, .ref h0_8, .ref h0_9, .ref h0_10, .ref h0_11, .ref h0_12])), (h0_7, .inl (yh0_7, 720, .inl fh0_7)), (a3, .inl (ya3, 60, .inl fa3))] := hD
  refine lv_istore (lv' := [(4, .int ry10), (3, .int zy4), (0, .ref h0), (1, .int p1), (2, .ref a3)]) hx hb dX2_muxValue_20 hl (by decide) rfl (fun ls hl => ?_)
  refine lv_aload_n hx hb dX2_muxValue_22 rfl (lv_at hl 4 rfl) ?_
  refine lv_aload_n hx hb dX2_muxValue_23 rfl (lv_at hl 2 rfl) ?_
  refine lv_iload_n hx hb dX2_muxValue_24 rfl (lv_at hl 3 rfl) ?_
  refine lv_iconst (v := 2) hx hb dX2_muxValue_25 (by decide) ?_
  have hPc := hP.sub (ws' := [(h0, .inr (0, [.int h0_0, .int h0_1, .ref h0_2, .ref h0_3, .ref h0_4, .ref h0_5, .ref h0_6, .ref h0_7, .ref h0_8, .ref h0_9, .ref h0_10, .ref h0_11, .ref h0_12])), (h0_7, .inl (yh0_7, 720, .inl fh0_7))]) [0, 1] rfl
  have hDc := hD.sub (ws' := [(h0, .inr (0, [.int h0_0, .int h0_1, .ref h0_2, .ref h0_3, .ref h0_4, .ref h0_5, .ref h0_6, .ref h0_7, .ref h0_8, .ref h0_9, .ref h0_10, .ref h0_11, .ref h0_12])), (h0_7, .inl (yh0_7, 720, .inl fh0_7))]) [0, 1] (by decide) rfl
  have hKc := hK.sub (tys' := [(yh0_7, .int)]) [0] rfl
  have hFc := va_free (wc := [(h0, .inr (0, [.int h0_0, .int h0_1, .ref h0_2, .ref h0_3, .ref h0_4, .ref h0_5, .ref h0_6, .ref h0_7, .ref h0_8, .ref h0_9, .ref h0_10, .ref h0_11, .ref h0_12])), (h0_7, .inl (yh0_7, 720, .inl fh0_7))]) hD hS hA [0, 1] rfl
  refine va_calli (va_runV (As := [.int p1, .int 2]) (rest := [.ref a3]) ⟨hx, hb, hml, hown, hts⟩ (s_X0_part l dC dI h0 h0_7 h0_0 h0_1 h0_2 h0_3 h0_4 h0_5 h0_6 h0_8 h0_9 h0_10 h0_11 h0_12 yh0_7 fh0_7 p1 2 Hy9.size hy_h0_0 hy_p1 (IV_mk (by decide) (by decide)) hy_fh0_7) (cwV 2 hts gX2_muxValue_X0_part rfl rfl rfl (by decide +kernel) ⟨Nat.le_of_ble_eq_true rfl, Nat.le_of_ble_eq_true rfl⟩) ⟨fun a U g mk q => by obtain ⟨q0, q1, qP, qK, qD⟩ := q; exact ⟨q0, q1, qP, va_K.moved (u := U) (U := U.calling g mk a) (Vm.Alike.refl U.vm) qK, qD⟩, va_recv hKc hPc (ci := 0) (q0 := 0) rfl rfl, fun U hU hW => ⟨rfl, by rw [hU], by rw [hU]; exact hPc, va_K.moved hW.alike hKc, hDc.weaken (fun _ _ _ _ => trivial)⟩⟩ rfl rfl hl.1 rfl (lv_room (Nat.le_of_ble_eq_true rfl)) dX2_muxValue_26 ⟨Nat.le_of_ble_eq_true rfl, Nat.le_of_ble_eq_true rfl⟩) hS (fun q _ h => hFc q h) hFc (fun ry12 u t Hy11 locs ht hvm hw hB hz1 hk1 hS => ?_)
  obtain ⟨hP1, hK1, hD1⟩ := hB
  rw [ht] at hP1
  obtain ⟨hP, hD⟩ := va_join (wr := [(a3, .inl (ya3, 60, .inl fa3))]) (w1 := [(h0, .inr (0, [.int h0_0, .int h0_1, .ref h0_2, .ref h0_3, .ref h0_4, .ref h0_5, .ref h0_6, .ref h0_7, .ref h0_8, .ref h0_9, .ref h0_10, .ref h0_11, .ref h0_12])), (h0_7, .inl (yh0_7, 720, .inl fh0_7))]) hP hD [0, 1] [2] rfl rfl (by decide) (by decide) hk1 hFc hP1 hD1
  have hP := hP.sub (ws' := [(h0, .inr (0, [.int h0_0, .int h0_1, .ref h0_2, .ref h0_3, .ref h0_4, .ref h0_5, .ref h0_6, .ref h0_7, .ref h0_8, .ref h0_9, .ref h0_10, .ref h0_11, .ref h0_12])), (h0_7, .inl (yh0_7, 720, .inl fh0_7)), (a3, .inl (ya3, 60, .inl fa3))]) [1, 2, 0] rfl
  have hD := hD.sub (ws' := [(h0, .inr (0, [.int h0_0, .int h0_1, .ref h0_2, .ref h0_3, .ref h0_4, .ref h0_5, .ref h0_6, .ref h0_7, .ref h0_8, .ref h0_9, .ref h0_10, .ref h0_11, .ref h0_12])), (h0_7, .inl (yh0_7, 720, .inl fh0_7)), (a3, .inl (ya3, 60, .inl fa3))]) [1, 2, 0] (by decide) rfl
  have hP : va_P (dC, dI) vwCl [(h0, .inr (0, [.int h0_0, .int h0_1, .ref h0_2, .ref h0_3, .ref h0_4, .ref h0_5, .ref h0_6, .ref h0_7, .ref h0_8, .ref h0_9, .ref h0_10, .ref h0_11, .ref h0_12])), (h0_7, .inl (yh0_7, 720, .inl fh0_7)), (a3, .inl (ya3, 60, .inl fa3))] Hy11 := hP
  have hD : va_D A [(h0, .inr (0, [.int h0_0, .int h0_1, .ref h0_2, .ref h0_3, .ref h0_4, .ref h0_5, .ref h0_6, .ref h0_7, .ref h0_8, .ref h0_9, .ref h0_10, .ref h0_11, .ref h0_12])), (h0_7, .inl (yh0_7, 720, .inl fh0_7)), (a3, .inl (ya3, 60, .inl fa3))] := hD
  have by13 : IV 0 59 ry12 := hw
  refine va_iald hx hb hK hP 2 1 rfl rfl (IV_in by13 (by decide) (by decide)) dX2_muxValue_29 ?_
  refine lv_topi (fun zy14 ezy14 => ?_)
  have hPc := hP.sub (ws' := []) [] rfl
  have hDc := hD.sub (ws' := []) [] (by decide) rfl
  have hKc := hK.sub (tys' := []) [] rfl
  have hFc := va_free (wc := []) hD hS hA [] rfl
  refine va_calli (va_runS (As := [.int zy14]) (rest := []) ⟨hx, hb, hml, hown, hts⟩ (s_X2_takenIn l dC dI zy14 Hy11.size) (va_cwS 1 hts gX2_muxValue_X2_takenIn rfl rfl rfl (by decide +kernel) ⟨Nat.le_of_ble_eq_true rfl, Nat.le_of_ble_eq_true rfl⟩) ⟨fun a U g mk q => by obtain ⟨q0, q1, qP, qK, qD⟩ := q; exact ⟨q0, q1, qP, va_K.moved (u := U) (U := U.calling g mk a) (Vm.Alike.refl U.vm) qK, qD⟩, fun U hU hW => ⟨rfl, by rw [hU], by rw [hU]; exact hPc, va_K.moved hW.alike hKc, hDc.weaken (fun _ _ _ _ => trivial)⟩⟩ rfl rfl hl.1 rfl (lv_room (Nat.le_of_ble_eq_true rfl)) dX2_muxValue_30 ⟨Nat.le_of_ble_eq_true rfl, Nat.le_of_ble_eq_true rfl⟩) hS (fun q _ h => hFc q h) hFc (fun ry16 u t Hy15 locs ht hvm hw hB hz1 hk1 hS => ?_)
  obtain ⟨hP1, hK1, hD1⟩ := hB
  rw [ht] at hP1
  obtain ⟨hP, hD⟩ := va_join (wr := [(h0, .inr (0, [.int h0_0, .int h0_1, .ref h0_2, .ref h0_3, .ref h0_4, .ref h0_5, .ref h0_6, .ref h0_7, .ref h0_8, .ref h0_9, .ref h0_10, .ref h0_11, .ref h0_12])), (h0_7, .inl (yh0_7, 720, .inl fh0_7)), (a3, .inl (ya3, 60, .inl fa3))]) (w1 := []) hP hD [] [0, 1, 2] rfl rfl (by decide) (by decide) hk1 hFc hP1 hD1
  have hP : va_P (dC, dI) vwCl [(h0, .inr (0, [.int h0_0, .int h0_1, .ref h0_2, .ref h0_3, .ref h0_4, .ref h0_5, .ref h0_6, .ref h0_7, .ref h0_8, .ref h0_9, .ref h0_10, .ref h0_11, .ref h0_12])), (h0_7, .inl (yh0_7, 720, .inl fh0_7)), (a3, .inl (ya3, 60, .inl fa3))] Hy15 := hP
  have hD : va_D A [(h0, .inr (0, [.int h0_0, .int h0_1, .ref h0_2, .ref h0_3, .ref h0_4, .ref h0_5, .ref h0_6, .ref h0_7, .ref h0_8, .ref h0_9, .ref h0_10, .ref h0_11, .ref h0_12])), (h0_7, .inl (yh0_7, 720, .inl fh0_7)), (a3, .inl (ya3, 60, .inl fa3))] := hD
  refine lv_istore (lv' := [(5, .int ry16), (4, .int ry10), (3, .int zy4), (0, .ref h0), (1, .int p1), (2, .ref a3)]) hx hb dX2_muxValue_33 hl (by decide) rfl (fun ls hl => ?_)
  refine lv_iload_n hx hb dX2_muxValue_35 rfl (lv_at hl 2 rfl) ?_
  refine lv_if_ne (tgt := 42) hx hb dX2_muxValue_36 (by decide) (fun cy17 => ?_) (fun cy17 => ?_)
  · have h_cy17 := cy17
    refine lv_iload_n hx hb dX2_muxValue_42 rfl (lv_at hl 2 rfl) ?_
    refine lv_iconst (v := 1) hx hb dX2_muxValue_43 (by decide) ?_
    refine lv_icmp_ne (tgt := 50) hx hb dX2_muxValue_44 (by decide) (fun cy18 => ?_) (fun cy18 => ?_)
    · have h_cy18 := cy18
      refine lv_iload hx hb dX2_muxValue_50 (lv_at hl 1 rfl) ?_
      refine lv_iload hx hb dX2_muxValue_52 (lv_at hl 0 rfl) ?_
      refine lv_icmp_ne (tgt := 62) hx hb dX2_muxValue_54 (by decide) (fun cy19 => ?_) (fun cy19 => ?_)
      · have h_cy19 := cy19
        refine lv_iconst (v := 2) hx hb dX2_muxValue_62 (by decide) ?_
        exact W.iret (v := 2) hx hb hr (fun t ht hW => ⟨⟨2, (), rfl, trivial, by rw [ht]; exact hP, va_K.moved hW.alike hK, hD⟩, hS.F ht⟩) hS.2.2 dX2_muxValue_63
      · have h_cy19 := cy19
        refine lv_iload hx hb dX2_muxValue_57 (lv_at hl 1 rfl) ?_
        refine lv_goto (tgt := 63) hx hb dX2_muxValue_59 (by decide) ?_
        exact W.iret (v := ry10) hx hb hr (fun t ht hW => ⟨⟨ry10, (), rfl, trivial, by rw [ht]; exact hP, va_K.moved hW.alike hK, hD⟩, hS.F ht⟩) hS.2.2 dX2_muxValue_63
    · have h_cy18 := cy18
      have by20 : IV 1 1 zy4 := IV_eq_l cy18 (IV_top zy4) (IV_mk (a := 1) (b := 1) (by decide) (by decide)) (by decide) (by decide)
      refine lv_iload hx hb dX2_muxValue_47 (lv_at hl 0 rfl) ?_
      exact W.iret (v := ry16) hx hb hr (fun t ht hW => ⟨⟨ry16, (), rfl, trivial, by rw [ht]; exact hP, va_K.moved hW.alike hK, hD⟩, hS.F ht⟩) hS.2.2 dX2_muxValue_49
  · have h_cy17 := cy17
    have by21 : IV 0 0 zy4 := IV_eq_l cy17 (IV_top zy4) (IV_mk (a := 0) (b := 0) (by decide) (by decide)) (by decide) (by decide)
    refine lv_iload hx hb dX2_muxValue_39 (lv_at hl 1 rfl) ?_
    exact W.iret (v := ry10) hx hb hr (fun t ht hW => ⟨⟨ry10, (), rfl, trivial, by rw [ht]; exact hP, va_K.moved hW.alike hK, hD⟩, hS.F ht⟩) hS.2.2 dX2_muxValue_41

set_option maxHeartbeats 4000000 in
set_option maxRecDepth 100000 in
theorem s_X2_gateValue (l : Launch) (dC : Nat → ClassId) (dI : Nat → Nat → Nat) (h0 : Nat) (h0_4 : Nat) (h0_5 : Nat) (h0_7 : Nat) (h0_8 : Nat) (a3 : Nat) (h0_0 : Int32) (h0_1 : Int32) (h0_2 : Nat) (h0_3 : Nat) (h0_6 : Nat) (h0_9 : Nat) (h0_10 : Nat) (h0_11 : Nat) (h0_12 : Nat) (yh0_4 : ClassId) (fh0_4 : Nat → Int32) (yh0_5 : ClassId) (fh0_5 : Nat → Int32) (yh0_7 : ClassId) (fh0_7 : Nat → Int32) (yh0_8 : ClassId) (fh0_8 : Nat → Int32) (ya3 : ClassId) (fa3 : Nat → Int32) (p1 : Int32) (sz : Nat) (hy_h0_0 : IV 0 60 h0_0) (hy_p1 : IV 0 59 p1) (hy_fh0_7 : AR 0 59 fh0_7) (hy_fh0_8 : AR 0 12 fh0_8) : Met l yX2_gateValue wsX2_gateValue ({ frames := 2, cells := 0, slots := 0, locals := 47 }) (va_Pc [.ref h0, .int p1, .ref a3] (fun U => U.heap.size = sz ∧ va_P (dC, dI) vwCl [(h0, .inr (0, [.int h0_0, .int h0_1, .ref h0_2, .ref h0_3, .ref h0_4, .ref h0_5, .ref h0_6, .ref h0_7, .ref h0_8, .ref h0_9, .ref h0_10, .ref h0_11, .ref h0_12])), (h0_4, .inl (yh0_4, 60, .inl fh0_4)), (h0_5, .inl (yh0_5, 60, .inl fh0_5)), (h0_7, .inl (yh0_7, 720, .inl fh0_7)), (h0_8, .inl (yh0_8, 60, .inl fh0_8)), (a3, .inl (ya3, 60, .inl fa3))] U.heap ∧ va_K (dC, dI) vwCl [(yh0_4, .int), (yh0_5, .int), (yh0_7, .int), (yh0_8, .int), (ya3, .int)] U ∧ va_D (fun _ => True) [(h0, .inr (0, [.int h0_0, .int h0_1, .ref h0_2, .ref h0_3, .ref h0_4, .ref h0_5, .ref h0_6, .ref h0_7, .ref h0_8, .ref h0_9, .ref h0_10, .ref h0_11, .ref h0_12])), (h0_4, .inl (yh0_4, 60, .inl fh0_4)), (h0_5, .inl (yh0_5, 60, .inl fh0_5)), (h0_7, .inl (yh0_7, 720, .inl fh0_7)), (h0_8, .inl (yh0_8, 60, .inl fh0_8)), (a3, .inl (ya3, 60, .inl fa3))])) (va_Qi (fun (r : Int32) (_ : Unit) => True) (fun (_ : Unit) (t : State) => va_P (dC, dI) vwCl [(h0, .inr (0, [.int h0_0, .int h0_1, .ref h0_2, .ref h0_3, .ref h0_4, .ref h0_5, .ref h0_6, .ref h0_7, .ref h0_8, .ref h0_9, .ref h0_10, .ref h0_11, .ref h0_12])), (h0_4, .inl (yh0_4, 60, .inl fh0_4)), (h0_5, .inl (yh0_5, 60, .inl fh0_5)), (h0_7, .inl (yh0_7, 720, .inl fh0_7)), (h0_8, .inl (yh0_8, 60, .inl fh0_8)), (a3, .inl (ya3, 60, .inl fa3))] t.heap ∧ va_K (dC, dI) vwCl [(yh0_4, .int), (yh0_5, .int), (yh0_7, .int), (yh0_8, .int), (ya3, .int)] t ∧ va_D (va_A [(h0, .inr (0, [.int h0_0, .int h0_1, .ref h0_2, .ref h0_3, .ref h0_4, .ref h0_5, .ref h0_6, .ref h0_7, .ref h0_8, .ref h0_9, .ref h0_10, .ref h0_11, .ref h0_12])), (h0_4, .inl (yh0_4, 60, .inl fh0_4)), (h0_5, .inl (yh0_5, 60, .inl fh0_5)), (h0_7, .inl (yh0_7, 720, .inl fh0_7)), (h0_8, .inl (yh0_8, 60, .inl fh0_8)), (a3, .inl (ya3, 60, .inl fa3))] sz) [(h0, .inr (0, [.int h0_0, .int h0_1, .ref h0_2, .ref h0_3, .ref h0_4, .ref h0_5, .ref h0_6, .ref h0_7, .ref h0_8, .ref h0_9, .ref h0_10, .ref h0_11, .ref h0_12])), (h0_4, .inl (yh0_4, 60, .inl fh0_4)), (h0_5, .inl (yh0_5, 60, .inl fh0_5)), (h0_7, .inl (yh0_7, 720, .inl fh0_7)), (h0_8, .inl (yh0_8, 60, .inl fh0_8)), (a3, .inl (ya3, 60, .inl fa3))]) (va_A [(h0, .inr (0, [.int h0_0, .int h0_1, .ref h0_2, .ref h0_3, .ref h0_4, .ref h0_5, .ref h0_6, .ref h0_7, .ref h0_8, .ref h0_9, .ref h0_10, .ref h0_11, .ref h0_12])), (h0_4, .inl (yh0_4, 60, .inl fh0_4)), (h0_5, .inl (yh0_5, 60, .inl fh0_5)), (h0_7, .inl (yh0_7, 720, .inl fh0_7)), (h0_8, .inl (yh0_8, 60, .inl fh0_8)), (a3, .inl (ya3, 60, .inl fa3))] sz)) 0 0 (va_A [(h0, .inr (0, [.int h0_0, .int h0_1, .ref h0_2, .ref h0_3, .ref h0_4, .ref h0_5, .ref h0_6, .ref h0_7, .ref h0_8, .ref h0_9, .ref h0_10, .ref h0_11, .ref h0_12])), (h0_4, .inl (yh0_4, 60, .inl fh0_4)), (h0_5, .inl (yh0_5, 60, .inl fh0_5)), (h0_7, .inl (yh0_7, 720, .inl fh0_7)), (h0_8, .inl (yh0_8, 60, .inl fh0_8)), (a3, .inl (ya3, 60, .inl fa3))] sz) := by
  refine Met.ofW (cc := cX2_gateValue) (maxL := 9) (ret := (some .int)) (by decide +kernel) rfl ?_
  intro p e s m args below meth c s₁ B hml hv
  obtain ⟨rfl, hsz, hP, hK, hD0⟩ := hv
  have hx := B.exec
  have hb := B.bytes
  have hr := B.returns
  have hts := atoms_spec (ws := wsX2_gateValue) B.pre
  have hown : s.vm.findClass RX2 = some m.cls := findClass_of_methodNamed B.named
  have hlocks := B.notSynchronized
  have inX0_ : ∀ w ∈ wsX00, w ∈ wsX2_gateValue := fun _ h => List.mem_cons_of_mem _ (List.mem_append_right _ h)
  subst hsz
  have hD := hD0.self (sz := s.heap.size)
  generalize hAe : va_A [(h0, .inr (0, [.int h0_0, .int h0_1, .ref h0_2, .ref h0_3, .ref h0_4, .ref h0_5, .ref h0_6, .ref h0_7, .ref h0_8, .ref h0_9, .ref h0_10, .ref h0_11, .ref h0_12])), (h0_4, .inl (yh0_4, 60, .inl fh0_4)), (h0_5, .inl (yh0_5, 60, .inl fh0_5)), (h0_7, .inl (yh0_7, 720, .inl fh0_7)), (h0_8, .inl (yh0_8, 60, .inl fh0_8)), (a3, .inl (ya3, 60, .inl fa3))] s.heap.size = A at hD ⊢
  have hA : ∀ q : Nat, s.heap.size ≤ q → A q := fun q h => by rw [← hAe]; exact Or.inr h
  have hS : va_S A s.heap s.heap [] := va_S.rf
  have hP : va_P (dC, dI) vwCl [(h0, .inr (0, [.int h0_0, .int h0_1, .ref h0_2, .ref h0_3, .ref h0_4, .ref h0_5, .ref h0_6, .ref h0_7, .ref h0_8, .ref h0_9, .ref h0_10, .ref h0_11, .ref h0_12])), (h0_4, .inl (yh0_4, 60, .inl fh0_4)), (h0_5, .inl (yh0_5, 60, .inl fh0_5)), (h0_7, .inl (yh0_7, 720, .inl fh0_7)), (h0_8, .inl (yh0_8, 60, .inl fh0_8)), (a3, .inl (ya3, 60, .inl fa3))] s.heap := hP
  have hl := lv_entry ([.ref h0, .int p1, .ref a3]) (n := 9) (Nat.le_of_ble_eq_true rfl)
  rw [lg_entry_eq]
  generalize (lg_sl ([.ref h0, .int p1, .ref a3]) ++ List.replicate (9 - (lg_sl ([.ref h0, .int p1, .ref a3])).length) Slot.unset).toArray = ls at hl ⊢
  have hl : lv_has ls 9 [(0, .ref h0), (1, .int p1), (2, .ref a3)] := hl
  refine lv_aload_n hx hb dX2_gateValue_0 rfl (lv_at hl 0 rfl) ?_
  refine va_get (D := (dC, dI)) (ci := 0) (v := .ref h0_5) (C := RX0) (T := TX0) (N := 13) hx hb hts inX0_ hown hK hP 0 rfl rfl 5 (by decide) (hts (.fieldLink RX2 31 "GateWheel$Circuit" "gates" "[I") (List.mem_of_getElem? (i := 1) rfl)) (fun _ h9 => h9) rfl dX2_gateValue_1 ?_
  refine lv_iload_n hx hb dX2_gateValue_4 rfl (lv_at hl 1 rfl) ?_
  refine va_iald hx hb hK hP 2 1 rfl rfl (IV_in hy_p1 (by decide) (by decide)) dX2_gateValue_5 ?_
  refine lv_topi (fun zy1 ezy1 => ?_)
  refine lv_istore_n (lv' := [(3, .int zy1), (0, .ref h0), (1, .int p1), (2, .ref a3)]) hx hb dX2_gateValue_6 rfl hl (by decide) rfl (fun ls hl => ?_)
  refine lv_iload_n hx hb dX2_gateValue_7 rfl (lv_at hl 0 rfl) ?_
  refine lv_bipush (v := 8) hx hb dX2_gateValue_8 (by decide) ?_
  refine lv_icmp_ne (tgt := 20) hx hb dX2_gateValue_10 (by decide) (fun cy2 => ?_) (fun cy2 => ?_)
  · have h_cy2 := cy2
    refine lv_iconst (v := 0) hx hb dX2_gateValue_20 (by decide) ?_
    refine lv_istore (lv' := [(4, .int 0), (3, .int zy1), (0, .ref h0), (1, .int p1), (2, .ref a3)]) hx hb dX2_gateValue_21 hl (by decide) rfl (fun ls hl => ?_)
    refine lv_iconst (v := 0) hx hb dX2_gateValue_23 (by decide) ?_
    refine lv_istore (lv' := [(5, .int 0), (4, .int 0), (3, .int zy1), (0, .ref h0), (1, .int p1), (2, .ref a3)]) hx hb dX2_gateValue_24 hl (by decide) rfl (fun ls hl => ?_)
    refine lv_aload_n hx hb dX2_gateValue_26 rfl (lv_at hl 3 rfl) ?_
    refine lv_iload_n hx hb dX2_gateValue_27 rfl (lv_at hl 4 rfl) ?_
    have hPc := hP.sub (ws' := [(h0, .inr (0, [.int h0_0, .int h0_1, .ref h0_2, .ref h0_3, .ref h0_4, .ref h0_5, .ref h0_6, .ref h0_7, .ref h0_8, .ref h0_9, .ref h0_10, .ref h0_11, .ref h0_12])), (h0_4, .inl (yh0_4, 60, .inl fh0_4)), (h0_8, .inl (yh0_8, 60, .inl fh0_8))]) [0, 1, 4] rfl
    have hDc := hD.sub (ws' := [(h0, .inr (0, [.int h0_0, .int h0_1, .ref h0_2, .ref h0_3, .ref h0_4, .ref h0_5, .ref h0_6, .ref h0_7, .ref h0_8, .ref h0_9, .ref h0_10, .ref h0_11, .ref h0_12])), (h0_4, .inl (yh0_4, 60, .inl fh0_4)), (h0_8, .inl (yh0_8, 60, .inl fh0_8))]) [0, 1, 4] (by decide) rfl
    have hKc := hK.sub (tys' := [(yh0_4, .int), (yh0_8, .int)]) [0, 3] rfl
    have hFc := va_free (wc := [(h0, .inr (0, [.int h0_0, .int h0_1, .ref h0_2, .ref h0_3, .ref h0_4, .ref h0_5, .ref h0_6, .ref h0_7, .ref h0_8, .ref h0_9, .ref h0_10, .ref h0_11, .ref h0_12])), (h0_4, .inl (yh0_4, 60, .inl fh0_4)), (h0_8, .inl (yh0_8, 60, .inl fh0_8))]) hD hS hA [0, 1, 4] rfl
    refine va_calli (va_runV (As := [.int p1]) (rest := []) ⟨hx, hb, hml, hown, hts⟩ (s_X0_size l dC dI h0 h0_4 h0_8 h0_0 h0_1 h0_2 h0_3 h0_5 h0_6 h0_7 h0_9 h0_10 h0_11 h0_12 yh0_4 fh0_4 yh0_8 fh0_8 p1 s.heap.size hy_h0_0 hy_p1 hy_fh0_8) (cwV 1 hts gX2_gateValue_X0_size rfl rfl rfl (by decide +kernel) ⟨Nat.le_of_ble_eq_true rfl, Nat.le_of_ble_eq_true rfl⟩) ⟨fun a U g mk q => by obtain ⟨q0, q1, qP, qK, qD⟩ := q; exact ⟨q0, q1, qP, va_K.moved (u := U) (U := U.calling g mk a) (Vm.Alike.refl U.vm) qK, qD⟩, va_recv hKc hPc (ci := 0) (q0 := 0) rfl rfl, fun U hU hW => ⟨rfl, by rw [hU], by rw [hU]; exact hPc, va_K.moved hW.alike hKc, hDc.weaken (fun _ _ _ _ => trivial)⟩⟩ rfl rfl hl.1 rfl (lv_room (Nat.le_of_ble_eq_true rfl)) dX2_gateValue_28 ⟨Nat.le_of_ble_eq_true rfl, Nat.le_of_ble_eq_true rfl⟩) hS (fun q _ h => hFc q h) hFc (fun ry4 u t Hy3 locs ht hvm hw hB hz1 hk1 hS => ?_)
    obtain ⟨hP1, hK1, hD1⟩ := hB
    rw [ht] at hP1
    obtain ⟨hP, hD⟩ := va_join (wr := [(h0_5, .inl (yh0_5, 60, .inl fh0_5)), (h0_7, .inl (yh0_7, 720, .inl fh0_7)), (a3, .inl (ya3, 60, .inl fa3))]) (w1 := [(h0, .inr (0, [.int h0_0, .int h0_1, .ref h0_2, .ref h0_3, .ref h0_4, .ref h0_5, .ref h0_6, .ref h0_7, .ref h0_8, .ref h0_9, .ref h0_10, .ref h0_11, .ref h0_12])), (h0_4, .inl (yh0_4, 60, .inl fh0_4)), (h0_8, .inl (yh0_8, 60, .inl fh0_8))]) hP hD [0, 1, 4] [2, 3, 5] rfl rfl (by decide) (by decide) hk1 hFc hP1 hD1
    have hP := hP.sub (ws' := [(h0, .inr (0, [.int h0_0, .int h0_1, .ref h0_2, .ref h0_3, .ref h0_4, .ref h0_5, .ref h0_6, .ref h0_7, .ref h0_8, .ref h0_9, .ref h0_10, .ref h0_11, .ref h0_12])), (h0_4, .inl (yh0_4, 60, .inl fh0_4)), (h0_5, .inl (yh0_5, 60, .inl fh0_5)), (h0_7, .inl (yh0_7, 720, .inl fh0_7)), (h0_8, .inl (yh0_8, 60, .inl fh0_8)), (a3, .inl (ya3, 60, .inl fa3))]) [3, 4, 0, 1, 5, 2] rfl
    have hD := hD.sub (ws' := [(h0, .inr (0, [.int h0_0, .int h0_1, .ref h0_2, .ref h0_3, .ref h0_4, .ref h0_5, .ref h0_6, .ref h0_7, .ref h0_8, .ref h0_9, .ref h0_10, .ref h0_11, .ref h0_12])), (h0_4, .inl (yh0_4, 60, .inl fh0_4)), (h0_5, .inl (yh0_5, 60, .inl fh0_5)), (h0_7, .inl (yh0_7, 720, .inl fh0_7)), (h0_8, .inl (yh0_8, 60, .inl fh0_8)), (a3, .inl (ya3, 60, .inl fa3))]) [3, 4, 0, 1, 5, 2] (by decide) rfl
    have hP : va_P (dC, dI) vwCl [(h0, .inr (0, [.int h0_0, .int h0_1, .ref h0_2, .ref h0_3, .ref h0_4, .ref h0_5, .ref h0_6, .ref h0_7, .ref h0_8, .ref h0_9, .ref h0_10, .ref h0_11, .ref h0_12])), (h0_4, .inl (yh0_4, 60, .inl fh0_4)), (h0_5, .inl (yh0_5, 60, .inl fh0_5)), (h0_7, .inl (yh0_7, 720, .inl fh0_7)), (h0_8, .inl (yh0_8, 60, .inl fh0_8)), (a3, .inl (ya3, 60, .inl fa3))] Hy3 := hP
    have hD : va_D A [(h0, .inr (0, [.int h0_0, .int h0_1, .ref h0_2, .ref h0_3, .ref h0_4, .ref h0_5, .ref h0_6, .ref h0_7, .ref h0_8, .ref h0_9, .ref h0_10, .ref h0_11, .ref h0_12])), (h0_4, .inl (yh0_4, 60, .inl fh0_4)), (h0_5, .inl (yh0_5, 60, .inl fh0_5)), (h0_7, .inl (yh0_7, 720, .inl fh0_7)), (h0_8, .inl (yh0_8, 60, .inl fh0_8)), (a3, .inl (ya3, 60, .inl fa3))] := hD
    have by5 : IV 0 12 ry4 := hw
    refine lv_istore (lv' := [(6, .int ry4), (5, .int 0), (4, .int 0), (3, .int zy1), (0, .ref h0), (1, .int p1), (2, .ref a3)]) hx hb dX2_gateValue_31 hl (by decide) rfl (fun ls hl => ?_)
    refine lv_iconst (v := 0) hx hb dX2_gateValue_33 (by decide) ?_
    refine lv_istore (lv' := [(7, .int 0), (6, .int ry4), (5, .int 0), (4, .int 0), (3, .int zy1), (0, .ref h0), (1, .int p1), (2, .ref a3)]) hx hb dX2_gateValue_34 hl (by decide) rfl (fun ls hl => ?_)
    refine W_abs (fun GWy15 eGy16 => ?_)
    have lpy17 : ∀ (n : Nat) (my12 : Int32) (my13 : Int32) (my14 : Int32) (HGWy15 : Heap) (locs : List Loc) (ls : Array Slot), 13 - my12.toInt ≤ (n : Int) → IV 0 12 my12 → va_P (dC, dI) vwCl [(h0, .inr (0, [.int h0_0, .int h0_1, .ref h0_2, .ref h0_3, .ref h0_4, .ref h0_5, .ref h0_6, .ref h0_7, .ref h0_8, .ref h0_9, .ref h0_10, .ref h0_11, .ref h0_12])), (h0_4, .inl (yh0_4, 60, .inl fh0_4)), (h0_5, .inl (yh0_5, 60, .inl fh0_5)), (h0_7, .inl (yh0_7, 720, .inl fh0_7)), (h0_8, .inl (yh0_8, 60, .inl fh0_8)), (a3, .inl (ya3, 60, .inl fa3))] HGWy15 → va_D A [(h0, .inr (0, [.int h0_0, .int h0_1, .ref h0_2, .ref h0_3, .ref h0_4, .ref h0_5, .ref h0_6, .ref h0_7, .ref h0_8, .ref h0_9, .ref h0_10, .ref h0_11, .ref h0_12])), (h0_4, .inl (yh0_4, 60, .inl fh0_4)), (h0_5, .inl (yh0_5, 60, .inl fh0_5)), (h0_7, .inl (yh0_7, 720, .inl fh0_7)), (h0_8, .inl (yh0_8, 60, .inl fh0_8)), (a3, .inl (ya3, 60, .inl fa3))] → va_S A s.heap HGWy15 locs → lv_has ls 9 [(7, .int my12), (6, .int ry4), (5, .int my13), (4, .int my14), (3, .int zy1), (0, .ref h0), (1, .int p1), (2, .ref a3)] → GWy15 HGWy15 locs 0 0 (F0 m 36 ls []) := by
      intro n
      induction n with
      | zero =>
        intro my12 my13 my14 HGWy15 locs ls hmGWy15 hmy12 hP hD hS hl
        exact (IV_u0 hmy12 hmGWy15 (by decide)).elim
      | succ n ihGWy15 =>
        intro my12 my13 my14 HGWy15 locs ls hmGWy15 hmy12 hP hD hS hl
        refine (eGy16 _ _ _ _ _).mpr ?_
        refine lv_iload hx hb dX2_gateValue_36 (lv_at hl 0 rfl) ?_
        refine lv_iload hx hb dX2_gateValue_38 (lv_at hl 1 rfl) ?_
        refine lv_icmp_ge (tgt := 91) hx hb dX2_gateValue_40 (by decide) (fun cy18 => ?_) (fun cy18 => ?_)
        · have h_cy18 := cy18
          refine lv_iload_n hx hb dX2_gateValue_91 rfl (lv_at hl 4 rfl) ?_
          refine lv_bipush (v := (-2)) hx hb dX2_gateValue_92 (by decide) ?_
          refine lv_iand hx hb dX2_gateValue_94 ?_
          refine lv_topi (fun zy19 ezy19 => ?_)
          refine lv_iload hx hb dX2_gateValue_95 (lv_at hl 3 rfl) ?_
          refine lv_iload hx hb dX2_gateValue_97 (lv_at hl 2 rfl) ?_
          refine lv_iload hx hb dX2_gateValue_99 (lv_at hl 1 rfl) ?_
          have hPc := hP.sub (ws' := []) [] rfl
          have hDc := hD.sub (ws' := []) [] (by decide) rfl
          have hKc := hK.sub (tys' := []) [] rfl
          have hFc := va_free (wc := []) hD hS hA [] rfl
          refine va_calli (va_runS (As := [.int zy19, .int my14, .int my13, .int ry4]) (rest := []) ⟨hx, hb, hml, hown, hts⟩ (s_X2_plainValue l dC dI zy19 my14 my13 ry4 HGWy15.size) (va_cwS 4 hts gX2_gateValue_X2_plainValue rfl rfl rfl (by decide +kernel) ⟨Nat.le_of_ble_eq_true rfl, Nat.le_of_ble_eq_true rfl⟩) ⟨fun a U g mk q => by obtain ⟨q0, q1, qP, qK, qD⟩ := q; exact ⟨q0, q1, qP, va_K.moved (u := U) (U := U.calling g mk a) (Vm.Alike.refl U.vm) qK, qD⟩, fun U hU hW => ⟨rfl, by rw [hU], by rw [hU]; exact hPc, va_K.moved hW.alike hKc, hDc.weaken (fun _ _ _ _ => trivial)⟩⟩ rfl rfl hl.1 rfl (lv_room (Nat.le_of_ble_eq_true rfl)) dX2_gateValue_101 ⟨Nat.le_of_ble_eq_true rfl, Nat.le_of_ble_eq_true rfl⟩) hS (fun q _ h => hFc q h) hFc (fun ry21 u t Hy20 locs ht hvm hw hB hz1 hk1 hS => ?_)
          obtain ⟨hP1, hK1, hD1⟩ := hB
          rw [ht] at hP1
          obtain ⟨hP, hD⟩ := va_join (wr := [(h0, .inr (0, [.int h0_0, .int h0_1, .ref h0_2, .ref h0_3, .ref h0_4, .ref h0_5, .ref h0_6, .ref h0_7, .ref h0_8, .ref h0_9, .ref h0_10, .ref h0_11, .ref h0_12])), (h0_4, .inl (yh0_4, 60, .inl fh0_4)), (h0_5, .inl (yh0_5, 60, .inl fh0_5)), (h0_7, .inl (yh0_7, 720, .inl fh0_7)), (h0_8, .inl (yh0_8, 60, .inl fh0_8)), (a3, .inl (ya3, 60, .inl fa3))]) (w1 := []) hP hD [] [0, 1, 2, 3, 4, 5] rfl rfl (by decide) (by decide) hk1 hFc hP1 hD1
          have hP : va_P (dC, dI) vwCl [(h0, .inr (0, [.int h0_0, .int h0_1, .ref h0_2, .ref h0_3, .ref h0_4, .ref h0_5, .ref h0_6, .ref h0_7, .ref h0_8, .ref h0_9, .ref h0_10, .ref h0_11, .ref h0_12])), (h0_4, .inl (yh0_4, 60, .inl fh0_4)), (h0_5, .inl (yh0_5, 60, .inl fh0_5)), (h0_7, .inl (yh0_7, 720, .inl fh0_7)), (h0_8, .inl (yh0_8, 60, .inl fh0_8)), (a3, .inl (ya3, 60, .inl fa3))] Hy20 := hP
          have hD : va_D A [(h0, .inr (0, [.int h0_0, .int h0_1, .ref h0_2, .ref h0_3, .ref h0_4, .ref h0_5, .ref h0_6, .ref h0_7, .ref h0_8, .ref h0_9, .ref h0_10, .ref h0_11, .ref h0_12])), (h0_4, .inl (yh0_4, 60, .inl fh0_4)), (h0_5, .inl (yh0_5, 60, .inl fh0_5)), (h0_7, .inl (yh0_7, 720, .inl fh0_7)), (h0_8, .inl (yh0_8, 60, .inl fh0_8)), (a3, .inl (ya3, 60, .inl fa3))] := hD
          have by22 : IV 0 2 ry21 := hw
          refine lv_istore (lv' := [(7, .int ry21), (6, .int ry4), (5, .int my13), (4, .int my14), (3, .int zy1), (0, .ref h0), (1, .int p1), (2, .ref a3)]) hx hb dX2_gateValue_104 hl (by decide) rfl (fun ls hl => ?_)
          refine lv_iload_n hx hb dX2_gateValue_106 rfl (lv_at hl 4 rfl) ?_
          have hPc := hP.sub (ws' := []) [] rfl
          have hDc := hD.sub (ws' := []) [] (by decide) rfl
          have hKc := hK.sub (tys' := []) [] rfl
          have hFc := va_free (wc := []) hD hS hA [] rfl
          refine va_calli (va_runS (As := [.int zy1]) (rest := []) ⟨hx, hb, hml, hown, hts⟩ (s_X2_isTurned l dC dI zy1 Hy20.size) (va_cwS 1 hts gX2_gateValue_X2_isTurned rfl rfl rfl (by decide +kernel) ⟨Nat.le_of_ble_eq_true rfl, Nat.le_of_ble_eq_true rfl⟩) ⟨fun a U g mk q => by obtain ⟨q0, q1, qP, qK, qD⟩ := q; exact ⟨q0, q1, qP, va_K.moved (u := U) (U := U.calling g mk a) (Vm.Alike.refl U.vm) qK, qD⟩, fun U hU hW => ⟨rfl, by rw [hU], by rw [hU]; exact hPc, va_K.moved hW.alike hKc, hDc.weaken (fun _ _ _ _ => trivial)⟩⟩ rfl rfl hl.1 rfl (lv_room (Nat.le_of_ble_eq_true rfl)) dX2_gateValue_107 ⟨Nat.le_of_ble_eq_true rfl, Nat.le_of_ble_eq_true rfl⟩) hS (fun q _ h => hFc q h) hFc (fun ry24 u t Hy23 locs ht hvm hw hB hz1 hk1 hS => ?_)
          obtain ⟨hP1, hK1, hD1⟩ := hB
          rw [ht] at hP1
          obtain ⟨hP, hD⟩ := va_join (wr := [(h0, .inr (0, [.int h0_0, .int h0_1, .ref h0_2, .ref h0_3, .ref h0_4, .ref h0_5, .ref h0_6, .ref h0_7, .ref h0_8, .ref h0_9, .ref h0_10, .ref h0_11, .ref h0_12])), (h0_4, .inl (yh0_4, 60, .inl fh0_4)), (h0_5, .inl (yh0_5, 60, .inl fh0_5)), (h0_7, .inl (yh0_7, 720, .inl fh0_7)), (h0_8, .inl (yh0_8, 60, .inl fh0_8)), (a3, .inl (ya3, 60, .inl fa3))]) (w1 := []) hP hD [] [0, 1, 2, 3, 4, 5] rfl rfl (by decide) (by decide) hk1 hFc hP1 hD1
          have hP : va_P (dC, dI) vwCl [(h0, .inr (0, [.int h0_0, .int h0_1, .ref h0_2, .ref h0_3, .ref h0_4, .ref h0_5, .ref h0_6, .ref h0_7, .ref h0_8, .ref h0_9, .ref h0_10, .ref h0_11, .ref h0_12])), (h0_4, .inl (yh0_4, 60, .inl fh0_4)), (h0_5, .inl (yh0_5, 60, .inl fh0_5)), (h0_7, .inl (yh0_7, 720, .inl fh0_7)), (h0_8, .inl (yh0_8, 60, .inl fh0_8)), (a3, .inl (ya3, 60, .inl fa3))] Hy23 := hP
          have hD : va_D A [(h0, .inr (0, [.int h0_0, .int h0_1, .ref h0_2, .ref h0_3, .ref h0_4, .ref h0_5, .ref h0_6, .ref h0_7, .ref h0_8, .ref h0_9, .ref h0_10, .ref h0_11, .ref h0_12])), (h0_4, .inl (yh0_4, 60, .inl fh0_4)), (h0_5, .inl (yh0_5, 60, .inl fh0_5)), (h0_7, .inl (yh0_7, 720, .inl fh0_7)), (h0_8, .inl (yh0_8, 60, .inl fh0_8)), (a3, .inl (ya3, 60, .inl fa3))] := hD
          have by25 : IV 0 1 ry24 := hw
          refine lv_if_eq (tgt := 126) hx hb dX2_gateValue_110 (by decide) (fun cy26 => ?_) (fun cy26 => ?_)
          · have h_cy26 := cy26
            have by27 : IV 0 0 ry24 := IV_eq_l cy26 by25 (IV_mk (a := 0) (b := 0) (by decide) (by decide)) (by decide) (by decide)
            refine lv_iload hx hb dX2_gateValue_126 (lv_at hl 0 rfl) ?_
            exact W.iret (v := ry21) hx hb hr (fun t ht hW => ⟨⟨ry21, (), rfl, trivial, by rw [ht]; exact hP, va_K.moved hW.alike hK, hD⟩, hS.F ht⟩) hS.2.2 dX2_gateValue_128
          · have h_cy26 := cy26
            have by28 : IV 1 1 ry24 := IV_ne_lo cy26 by25 (IV_mk (a := 0) (b := 0) (by decide) (by decide)) (by decide) (by decide) (by decide)
            refine lv_iload hx hb dX2_gateValue_113 (lv_at hl 0 rfl) ?_
            refine lv_iconst (v := 2) hx hb dX2_gateValue_115 (by decide) ?_
            refine lv_icmp_ge (tgt := 126) hx hb dX2_gateValue_116 (by decide) (fun cy29 => ?_) (fun cy29 => ?_)
            · have h_cy29 := cy29
              have by30 : IV 2 2 ry21 := IV_le_r cy29 (IV_mk (a := 2) (b := 2) (by decide) (by decide)) by22 (by decide) (by decide)
              refine lv_iload hx hb dX2_gateValue_126 (lv_at hl 0 rfl) ?_
              exact W.iret (v := ry21) hx hb hr (fun t ht hW => ⟨⟨ry21, (), rfl, trivial, by rw [ht]; exact hP, va_K.moved hW.alike hK, hD⟩, hS.F ht⟩) hS.2.2 dX2_gateValue_128
            · have h_cy29 := cy29
              have by31 : IV 0 1 ry21 := IV_nle_r cy29 (IV_mk (a := 2) (b := 2) (by decide) (by decide)) by22 (by decide) (by decide)
              refine lv_iconst (v := 1) hx hb dX2_gateValue_119 (by decide) ?_
              refine lv_iload hx hb dX2_gateValue_120 (lv_at hl 0 rfl) ?_
              refine lv_isub hx hb dX2_gateValue_122 ?_
              refine lv_topi (fun zy32 ezy32 => ?_)
              have by33 : IV 0 1 zy32 := IV_sub ezy32 (IV_mk (a := 1) (b := 1) (by decide) (by decide)) by31 (by decide) (by decide) (by decide) (by decide)
              refine lv_goto (tgt := 128) hx hb dX2_gateValue_123 (by decide) ?_
              exact W.iret (v := zy32) hx hb hr (fun t ht hW => ⟨⟨zy32, (), rfl, trivial, by rw [ht]; exact hP, va_K.moved hW.alike hK, hD⟩, hS.F ht⟩) hS.2.2 dX2_gateValue_128
        · have h_cy18 := cy18
          have by34 : IV 1 12 ry4 := IV_nle_l cy18 by5 hmy12 (by decide) (by decide)
          have by35 : IV 0 11 my12 := IV_nle_r cy18 by5 hmy12 (by decide) (by decide)
          refine lv_aload_n hx hb dX2_gateValue_43 rfl (lv_at hl 7 rfl) ?_
          refine lv_aload_n hx hb dX2_gateValue_44 rfl (lv_at hl 5 rfl) ?_
          refine lv_iload_n hx hb dX2_gateValue_45 rfl (lv_at hl 6 rfl) ?_
          refine lv_iload hx hb dX2_gateValue_46 (lv_at hl 0 rfl) ?_
          have hPc := hP.sub (ws' := [(h0, .inr (0, [.int h0_0, .int h0_1, .ref h0_2, .ref h0_3, .ref h0_4, .ref h0_5, .ref h0_6, .ref h0_7, .ref h0_8, .ref h0_9, .ref h0_10, .ref h0_11, .ref h0_12])), (h0_7, .inl (yh0_7, 720, .inl fh0_7))]) [0, 3] rfl
          have hDc := hD.sub (ws' := [(h0, .inr (0, [.int h0_0, .int h0_1, .ref h0_2, .ref h0_3, .ref h0_4, .ref h0_5, .ref h0_6, .ref h0_7, .ref h0_8, .ref h0_9, .ref h0_10, .ref h0_11, .ref h0_12])), (h0_7, .inl (yh0_7, 720, .inl fh0_7))]) [0, 3] (by decide) rfl
          have hKc := hK.sub (tys' := [(yh0_7, .int)]) [2] rfl
          have hFc := va_free (wc := [(h0, .inr (0, [.int h0_0, .int h0_1, .ref h0_2, .ref h0_3, .ref h0_4, .ref h0_5, .ref h0_6, .ref h0_7, .ref h0_8, .ref h0_9, .ref h0_10, .ref h0_11, .ref h0_12])), (h0_7, .inl (yh0_7, 720, .inl fh0_7))]) hD hS hA [0, 3] rfl
          refine va_calli (va_runV (As := [.int p1, .int my12]) (rest := [.ref a3]) ⟨hx, hb, hml, hown, hts⟩ (s_X0_part l dC dI h0 h0_7 h0_0 h0_1 h0_2 h0_3 h0_4 h0_5 h0_6 h0_8 h0_9 h0_10 h0_11 h0_12 yh0_7 fh0_7 p1 my12 HGWy15.size hy_h0_0 hy_p1 by35 hy_fh0_7) (cwV 2 hts gX2_gateValue_X0_part rfl rfl rfl (by decide +kernel) ⟨Nat.le_of_ble_eq_true rfl, Nat.le_of_ble_eq_true rfl⟩) ⟨fun a U g mk q => by obtain ⟨q0, q1, qP, qK, qD⟩ := q; exact ⟨q0, q1, qP, va_K.moved (u := U) (U := U.calling g mk a) (Vm.Alike.refl U.vm) qK, qD⟩, va_recv hKc hPc (ci := 0) (q0 := 0) rfl rfl, fun U hU hW => ⟨rfl, by rw [hU], by rw [hU]; exact hPc, va_K.moved hW.alike hKc, hDc.weaken (fun _ _ _ _ => trivial)⟩⟩ rfl rfl hl.1 rfl (lv_room (Nat.le_of_ble_eq_true rfl)) dX2_gateValue_48 ⟨Nat.le_of_ble_eq_true rfl, Nat.le_of_ble_eq_true rfl⟩) hS (fun q _ h => hFc q h) hFc (fun ry37 u t Hy36 locs ht hvm hw hB hz1 hk1 hS => ?_)
          obtain ⟨hP1, hK1, hD1⟩ := hB
          rw [ht] at hP1
          obtain ⟨hP, hD⟩ := va_join (wr := [(h0_4, .inl (yh0_4, 60, .inl fh0_4)), (h0_5, .inl (yh0_5, 60, .inl fh0_5)), (h0_8, .inl (yh0_8, 60, .inl fh0_8)), (a3, .inl (ya3, 60, .inl fa3))]) (w1 := [(h0, .inr (0, [.int h0_0, .int h0_1, .ref h0_2, .ref h0_3, .ref h0_4, .ref h0_5, .ref h0_6, .ref h0_7, .ref h0_8, .ref h0_9, .ref h0_10, .ref h0_11, .ref h0_12])), (h0_7, .inl (yh0_7, 720, .inl fh0_7))]) hP hD [0, 3] [1, 2, 4, 5] rfl rfl (by decide) (by decide) hk1 hFc hP1 hD1
          have hP := hP.sub (ws' := [(h0, .inr (0, [.int h0_0, .int h0_1, .ref h0_2, .ref h0_3, .ref h0_4, .ref h0_5, .ref h0_6, .ref h0_7, .ref h0_8, .ref h0_9, .ref h0_10, .ref h0_11, .ref h0_12])), (h0_4, .inl (yh0_4, 60, .inl fh0_4)), (h0_5, .inl (yh0_5, 60, .inl fh0_5)), (h0_7, .inl (yh0_7, 720, .inl fh0_7)), (h0_8, .inl (yh0_8, 60, .inl fh0_8)), (a3, .inl (ya3, 60, .inl fa3))]) [4, 0, 1, 5, 2, 3] rfl
          have hD := hD.sub (ws' := [(h0, .inr (0, [.int h0_0, .int h0_1, .ref h0_2, .ref h0_3, .ref h0_4, .ref h0_5, .ref h0_6, .ref h0_7, .ref h0_8, .ref h0_9, .ref h0_10, .ref h0_11, .ref h0_12])), (h0_4, .inl (yh0_4, 60, .inl fh0_4)), (h0_5, .inl (yh0_5, 60, .inl fh0_5)), (h0_7, .inl (yh0_7, 720, .inl fh0_7)), (h0_8, .inl (yh0_8, 60, .inl fh0_8)), (a3, .inl (ya3, 60, .inl fa3))]) [4, 0, 1, 5, 2, 3] (by decide) rfl
          have hP : va_P (dC, dI) vwCl [(h0, .inr (0, [.int h0_0, .int h0_1, .ref h0_2, .ref h0_3, .ref h0_4, .ref h0_5, .ref h0_6, .ref h0_7, .ref h0_8, .ref h0_9, .ref h0_10, .ref h0_11, .ref h0_12])), (h0_4, .inl (yh0_4, 60, .inl fh0_4)), (h0_5, .inl (yh0_5, 60, .inl fh0_5)), (h0_7, .inl (yh0_7, 720, .inl fh0_7)), (h0_8, .inl (yh0_8, 60, .inl fh0_8)), (a3, .inl (ya3, 60, .inl fa3))] Hy36 := hP
          have hD : va_D A [(h0, .inr (0, [.int h0_0, .int h0_1, .ref h0_2, .ref h0_3, .ref h0_4, .ref h0_5, .ref h0_6, .ref h0_7, .ref h0_8, .ref h0_9, .ref h0_10, .ref h0_11, .ref h0_12])), (h0_4, .inl (yh0_4, 60, .inl fh0_4)), (h0_5, .inl (yh0_5, 60, .inl fh0_5)), (h0_7, .inl (yh0_7, 720, .inl fh0_7)), (h0_8, .inl (yh0_8, 60, .inl fh0_8)), (a3, .inl (ya3, 60, .inl fa3))] := hD
          have by38 : IV 0 59 ry37 := hw
          refine va_iald hx hb hK hP 5 4 rfl rfl (IV_in by38 (by decide) (by decide)) dX2_gateValue_51 ?_
          refine lv_topi (fun zy39 ezy39 => ?_)
          refine lv_istore (lv' := [(8, .int zy39), (7, .int my12), (6, .int ry4), (5, .int my13), (4, .int my14), (3, .int zy1), (0, .ref h0), (1, .int p1), (2, .ref a3)]) hx hb dX2_gateValue_52 hl (by decide) rfl (fun ls hl => ?_)
          refine lv_iload hx hb dX2_gateValue_54 (lv_at hl 4 rfl) ?_
          refine lv_iload hx hb dX2_gateValue_56 (lv_at hl 0 rfl) ?_
          refine W_abs (fun GWy42 eGy43 => ?_)
          have jny44 : ∀ (my41 : Int32) (HGWy42 : Heap) (locs : List Loc) (ls : Array Slot), IV 0 1 my41 → va_P (dC, dI) vwCl [(h0, .inr (0, [.int h0_0, .int h0_1, .ref h0_2, .ref h0_3, .ref h0_4, .ref h0_5, .ref h0_6, .ref h0_7, .ref h0_8, .ref h0_9, .ref h0_10, .ref h0_11, .ref h0_12])), (h0_4, .inl (yh0_4, 60, .inl fh0_4)), (h0_5, .inl (yh0_5, 60, .inl fh0_5)), (h0_7, .inl (yh0_7, 720, .inl fh0_7)), (h0_8, .inl (yh0_8, 60, .inl fh0_8)), (a3, .inl (ya3, 60, .inl fa3))] HGWy42 → va_D A [(h0, .inr (0, [.int h0_0, .int h0_1, .ref h0_2, .ref h0_3, .ref h0_4, .ref h0_5, .ref h0_6, .ref h0_7, .ref h0_8, .ref h0_9, .ref h0_10, .ref h0_11, .ref h0_12])), (h0_4, .inl (yh0_4, 60, .inl fh0_4)), (h0_5, .inl (yh0_5, 60, .inl fh0_5)), (h0_7, .inl (yh0_7, 720, .inl fh0_7)), (h0_8, .inl (yh0_8, 60, .inl fh0_8)), (a3, .inl (ya3, 60, .inl fa3))] → va_S A s.heap HGWy42 locs → lv_has ls 9 [(8, .int zy39), (7, .int my12), (6, .int ry4), (5, .int my13), (4, .int my14), (3, .int zy1), (0, .ref h0), (1, .int p1), (2, .ref a3)] → GWy42 HGWy42 locs 0 0 (F0 m 66 ls [.int my41, .int my14]) := by
            intro my41 HGWy42 locs ls hmy41 hP hD hS hl
            refine (eGy43 _ _ _ _ _).mpr ?_
            refine lv_iadd hx hb dX2_gateValue_66 ?_
            refine lv_topi (fun zy45 ezy45 => ?_)
            refine lv_istore (lv' := [(4, .int zy45), (8, .int zy39), (7, .int my12), (6, .int ry4), (5, .int my13), (3, .int zy1), (0, .ref h0), (1, .int p1), (2, .ref a3)]) hx hb dX2_gateValue_67 hl (by decide) rfl (fun ls hl => ?_)
            refine lv_iload hx hb dX2_gateValue_69 (lv_at hl 4 rfl) ?_
            refine lv_iload hx hb dX2_gateValue_71 (lv_at hl 1 rfl) ?_
            refine lv_iconst (v := 1) hx hb dX2_gateValue_73 (by decide) ?_
            refine W_abs (fun GWy48 eGy49 => ?_)
            have jny50 : ∀ (my47 : Int32) (HGWy48 : Heap) (locs : List Loc) (ls : Array Slot), IV 0 1 my47 → va_P (dC, dI) vwCl [(h0, .inr (0, [.int h0_0, .int h0_1, .ref h0_2, .ref h0_3, .ref h0_4, .ref h0_5, .ref h0_6, .ref h0_7, .ref h0_8, .ref h0_9, .ref h0_10, .ref h0_11, .ref h0_12])), (h0_4, .inl (yh0_4, 60, .inl fh0_4)), (h0_5, .inl (yh0_5, 60, .inl fh0_5)), (h0_7, .inl (yh0_7, 720, .inl fh0_7)), (h0_8, .inl (yh0_8, 60, .inl fh0_8)), (a3, .inl (ya3, 60, .inl fa3))] HGWy48 → va_D A [(h0, .inr (0, [.int h0_0, .int h0_1, .ref h0_2, .ref h0_3, .ref h0_4, .ref h0_5, .ref h0_6, .ref h0_7, .ref h0_8, .ref h0_9, .ref h0_10, .ref h0_11, .ref h0_12])), (h0_4, .inl (yh0_4, 60, .inl fh0_4)), (h0_5, .inl (yh0_5, 60, .inl fh0_5)), (h0_7, .inl (yh0_7, 720, .inl fh0_7)), (h0_8, .inl (yh0_8, 60, .inl fh0_8)), (a3, .inl (ya3, 60, .inl fa3))] → va_S A s.heap HGWy48 locs → lv_has ls 9 [(4, .int zy45), (8, .int zy39), (7, .int my12), (6, .int ry4), (5, .int my13), (3, .int zy1), (0, .ref h0), (1, .int p1), (2, .ref a3)] → GWy48 HGWy48 locs 0 0 (F0 m 82 ls [.int my47, .int my13]) := by
              intro my47 HGWy48 locs ls hmy47 hP hD hS hl
              refine (eGy49 _ _ _ _ _).mpr ?_
              refine lv_iadd hx hb dX2_gateValue_82 ?_
              refine lv_topi (fun zy51 ezy51 => ?_)
              refine lv_istore (lv' := [(5, .int zy51), (4, .int zy45), (8, .int zy39), (7, .int my12), (6, .int ry4), (3, .int zy1), (0, .ref h0), (1, .int p1), (2, .ref a3)]) hx hb dX2_gateValue_83 hl (by decide) rfl (fun ls hl => ?_)
              obtain ⟨zy52, ezy52⟩ : ∃ y : Int32, y = my12 + Int32.ofInt 1 := ⟨_, rfl⟩
              have by53 : IV 1 12 zy52 := IV_add (c := 1) (d := 1) ezy52 by35 (IV_mk (by decide) (by decide)) (by decide) (by decide) (by decide) (by decide)
              refine lv_iinc (v := zy52) (lv' := [(7, .int zy52), (5, .int zy51), (4, .int zy45), (8, .int zy39), (6, .int ry4), (3, .int zy1), (0, .ref h0), (1, .int p1), (2, .ref a3)]) hx hb dX2_gateValue_85 hl (k := 3) rfl ezy52.symm (by decide) rfl (fun ls hl => ?_)
              refine lv_goto (tgt := 36) hx hb dX2_gateValue_88 (by decide) ?_
              exact (eGy16 _ _ _ _ _).mp (ihGWy15 zy52 zy51 zy45 _ _ _ (IV_u1 hmGWy15 (IV_step (c := 1) ezy52 by35 (by decide) (by decide) (by decide)) (by decide)) (IV_wk by53 (by decide) (by decide)) hP hD hS (lv_sub hl [0, 4, 1, 2, 5, 6, 7, 8] rfl))
            refine (eGy49 _ _ _ _ _).mpr ?_
            refine lv_icmp_ne (tgt := 81) hx hb dX2_gateValue_74 (by decide) (fun cy46 => ?_) (fun cy46 => ?_)
            · have h_cy46 := cy46
              refine lv_iconst (v := 0) hx hb dX2_gateValue_81 (by decide) ?_
              exact (eGy49 _ _ _ _ _).mp (jny50 0 _ _ _ (IV_mk (by decide) (by decide)) hP hD hS (lv_sub hl [0, 1, 2, 3, 4, 5, 6, 7, 8] rfl))
            · have h_cy46 := cy46
              have by54 : IV 1 1 zy39 := IV_eq_l cy46 (IV_top zy39) (IV_mk (a := 1) (b := 1) (by decide) (by decide)) (by decide) (by decide)
              refine lv_iconst (v := 1) hx hb dX2_gateValue_77 (by decide) ?_
              refine lv_goto (tgt := 82) hx hb dX2_gateValue_78 (by decide) ?_
              exact (eGy49 _ _ _ _ _).mp (jny50 1 _ _ _ (IV_mk (by decide) (by decide)) hP hD hS (lv_sub hl [0, 1, 2, 3, 4, 5, 6, 7, 8] rfl))
          refine (eGy43 _ _ _ _ _).mpr ?_
          refine lv_if_ne (tgt := 65) hx hb dX2_gateValue_58 (by decide) (fun cy40 => ?_) (fun cy40 => ?_)
          · have h_cy40 := cy40
            refine lv_iconst (v := 0) hx hb dX2_gateValue_65 (by decide) ?_
            exact (eGy43 _ _ _ _ _).mp (jny44 0 _ _ _ (IV_mk (by decide) (by decide)) hP hD hS (lv_sub hl [0, 1, 2, 3, 4, 5, 6, 7, 8] rfl))
          · have h_cy40 := cy40
            have by55 : IV 0 0 zy39 := IV_eq_l cy40 (IV_top zy39) (IV_mk (a := 0) (b := 0) (by decide) (by decide)) (by decide) (by decide)
            refine lv_iconst (v := 1) hx hb dX2_gateValue_61 (by decide) ?_
            refine lv_goto (tgt := 66) hx hb dX2_gateValue_62 (by decide) ?_
            exact (eGy43 _ _ _ _ _).mp (jny44 1 _ _ _ (IV_mk (by decide) (by decide)) hP hD hS (lv_sub hl [0, 1, 2, 3, 4, 5, 6, 7, 8] rfl))
    exact lpy17 13 0 0 0 _ _ _ (IV_ui (IV_mk (a := 0) (b := 0) (by decide) (by decide)) (by decide)) (IV_mk (by decide) (by decide)) hP hD hS (lv_sub hl [0, 1, 2, 3, 4, 5, 6, 7] rfl)
  · have h_cy2 := cy2
    have by56 : IV 8 8 zy1 := IV_eq_l cy2 (IV_top zy1) (IV_mk (a := 8) (b := 8) (by decide) (by decide)) (by decide) (by decide)
    refine lv_aload_n hx hb dX2_gateValue_13 rfl (lv_at hl 1 rfl) ?_
    refine lv_iload_n hx hb dX2_gateValue_14 rfl (lv_at hl 2 rfl) ?_
    refine lv_aload_n hx hb dX2_gateValue_15 rfl (lv_at hl 3 rfl) ?_
    have hPc := hP.sub (ws' := [(h0, .inr (0, [.int h0_0, .int h0_1, .ref h0_2, .ref h0_3, .ref h0_4, .ref h0_5, .ref h0_6, .ref h0_7, .ref h0_8, .ref h0_9, .ref h0_10, .ref h0_11, .ref h0_12])), (h0_7, .inl (yh0_7, 720, .inl fh0_7)), (a3, .inl (ya3, 60, .inl fa3))]) [0, 3, 5] rfl
    have hDc := hD.sub (ws' := [(h0, .inr (0, [.int h0_0, .int h0_1, .ref h0_2, .ref h0_3, .ref h0_4, .ref h0_5, .ref h0_6, .ref h0_7, .ref h0_8, .ref h0_9, .ref h0_10, .ref h0_11, .ref h0_12])), (h0_7, .inl (yh0_7, 720, .inl fh0_7)), (a3, .inl (ya3, 60, .inl fa3))]) [0, 3, 5] (by decide) rfl
    have hKc := hK.sub (tys' := [(yh0_7, .int), (ya3, .int)]) [2, 4] rfl
    have hFc := va_free (wc := [(h0, .inr (0, [.int h0_0, .int h0_1, .ref h0_2, .ref h0_3, .ref h0_4, .ref h0_5, .ref h0_6, .ref h0_7, .ref h0_8, .ref h0_9, .ref h0_10, .ref h0_11, .ref h0_12])), (h0_7, .inl (yh0_7, 720, .inl fh0_7)), (a3, .inl (ya3, 60, .inl fa3))]) hD hS hA [0, 3, 5] rfl
    refine va_calli (va_runS (As := [.ref h0, .int p1, .ref a3]) (rest := []) ⟨hx, hb, hml, hown, hts⟩ (s_X2_muxValue l dC dI h0 h0_7 a3 h0_0 h0_1 h0_2 h0_3 h0_4 h0_5 h0_6 h0_8 h0_9 h0_10 h0_11 h0_12 yh0_7 fh0_7 ya3 fa3 p1 s.heap.size hy_h0_0 hy_p1 hy_fh0_7) (va_cwS 3 hts gX2_gateValue_X2_muxValue rfl rfl rfl (by decide +kernel) ⟨Nat.le_of_ble_eq_true rfl, Nat.le_of_ble_eq_true rfl⟩) ⟨fun a U g mk q => by obtain ⟨q0, q1, qP, qK, qD⟩ := q; exact ⟨q0, q1, qP, va_K.moved (u := U) (U := U.calling g mk a) (Vm.Alike.refl U.vm) qK, qD⟩, fun U hU hW => ⟨rfl, by rw [hU], by rw [hU]; exact hPc, va_K.moved hW.alike hKc, hDc.weaken (fun _ _ _ _ => trivial)⟩⟩ rfl rfl hl.1 rfl (lv_room (Nat.le_of_ble_eq_true rfl)) dX2_gateValue_16 ⟨Nat.le_of_ble_eq_true rfl, Nat.le_of_ble_eq_true rfl⟩) hS (fun q _ h => hFc q h) hFc (fun ry58 u t Hy57 locs ht hvm hw hB hz1 hk1 hS => ?_)
    obtain ⟨hP1, hK1, hD1⟩ := hB
    rw [ht] at hP1
    obtain ⟨hP, hD⟩ := va_join (wr := [(h0_4, .inl (yh0_4, 60, .inl fh0_4)), (h0_5, .inl (yh0_5, 60, .inl fh0_5)), (h0_8, .inl (yh0_8, 60, .inl fh0_8))]) (w1 := [(h0, .inr (0, [.int h0_0, .int h0_1, .ref h0_2, .ref h0_3, .ref h0_4, .ref h0_5, .ref h0_6, .ref h0_7, .ref h0_8, .ref h0_9, .ref h0_10, .ref h0_11, .ref h0_12])), (h0_7, .inl (yh0_7, 720, .inl fh0_7)), (a3, .inl (ya3, 60, .inl fa3))]) hP hD [0, 3, 5] [1, 2, 4] rfl rfl (by decide) (by decide) hk1 hFc hP1 hD1
    have hP := hP.sub (ws' := [(h0, .inr (0, [.int h0_0, .int h0_1, .ref h0_2, .ref h0_3, .ref h0_4, .ref h0_5, .ref h0_6, .ref h0_7, .ref h0_8, .ref h0_9, .ref h0_10, .ref h0_11, .ref h0_12])), (h0_4, .inl (yh0_4, 60, .inl fh0_4)), (h0_5, .inl (yh0_5, 60, .inl fh0_5)), (h0_7, .inl (yh0_7, 720, .inl fh0_7)), (h0_8, .inl (yh0_8, 60, .inl fh0_8)), (a3, .inl (ya3, 60, .inl fa3))]) [3, 0, 1, 4, 2, 5] rfl
    have hD := hD.sub (ws' := [(h0, .inr (0, [.int h0_0, .int h0_1, .ref h0_2, .ref h0_3, .ref h0_4, .ref h0_5, .ref h0_6, .ref h0_7, .ref h0_8, .ref h0_9, .ref h0_10, .ref h0_11, .ref h0_12])), (h0_4, .inl (yh0_4, 60, .inl fh0_4)), (h0_5, .inl (yh0_5, 60, .inl fh0_5)), (h0_7, .inl (yh0_7, 720, .inl fh0_7)), (h0_8, .inl (yh0_8, 60, .inl fh0_8)), (a3, .inl (ya3, 60, .inl fa3))]) [3, 0, 1, 4, 2, 5] (by decide) rfl
    have hP : va_P (dC, dI) vwCl [(h0, .inr (0, [.int h0_0, .int h0_1, .ref h0_2, .ref h0_3, .ref h0_4, .ref h0_5, .ref h0_6, .ref h0_7, .ref h0_8, .ref h0_9, .ref h0_10, .ref h0_11, .ref h0_12])), (h0_4, .inl (yh0_4, 60, .inl fh0_4)), (h0_5, .inl (yh0_5, 60, .inl fh0_5)), (h0_7, .inl (yh0_7, 720, .inl fh0_7)), (h0_8, .inl (yh0_8, 60, .inl fh0_8)), (a3, .inl (ya3, 60, .inl fa3))] Hy57 := hP
    have hD : va_D A [(h0, .inr (0, [.int h0_0, .int h0_1, .ref h0_2, .ref h0_3, .ref h0_4, .ref h0_5, .ref h0_6, .ref h0_7, .ref h0_8, .ref h0_9, .ref h0_10, .ref h0_11, .ref h0_12])), (h0_4, .inl (yh0_4, 60, .inl fh0_4)), (h0_5, .inl (yh0_5, 60, .inl fh0_5)), (h0_7, .inl (yh0_7, 720, .inl fh0_7)), (h0_8, .inl (yh0_8, 60, .inl fh0_8)), (a3, .inl (ya3, 60, .inl fa3))] := hD
    exact W.iret (v := ry58) hx hb hr (fun t ht hW => ⟨⟨ry58, (), rfl, trivial, by rw [ht]; exact hP, va_K.moved hW.alike hK, hD⟩, hS.F ht⟩) hS.2.2 dX2_gateValue_19

set_option maxHeartbeats 4000000 in
set_option maxRecDepth 100000 in
theorem s_X2_driverValue (l : Launch) (dC : Nat → ClassId) (dI : Nat → Nat → Nat) (h0 : Nat) (h0_7 : Nat) (h0_9 : Nat) (a3 : Nat) (h0_0 : Int32) (h0_1 : Int32) (h0_2 : Nat) (h0_3 : Nat) (h0_4 : Nat) (h0_5 : Nat) (h0_6 : Nat) (h0_8 : Nat) (h0_10 : Nat) (h0_11 : Nat) (h0_12 : Nat) (yh0_7 : ClassId) (fh0_7 : Nat → Int32) (yh0_9 : ClassId) (fh0_9 : Nat → Int32) (ya3 : ClassId) (fa3 : Nat → Int32) (p1 : Int32) (p2 : Int32) (sz : Nat) (hy_h0_0 : IV 0 60 h0_0) (hy_p1 : IV 0 59 p1) (hy_p2 : IV 0 5 p2) (hy_fh0_7 : AR 0 59 fh0_7) : Met l yX2_driverValue wsX2_driverValue ({ frames := 1, cells := 0, slots := 0, locals := 22 }) (va_Pc [.ref h0, .int p1, .int p2, .ref a3] (fun U => U.heap.size = sz ∧ va_P (dC, dI) vwCl [(h0, .inr (0, [.int h0_0, .int h0_1, .ref h0_2, .ref h0_3, .ref h0_4, .ref h0_5, .ref h0_6, .ref h0_7, .ref h0_8, .ref h0_9, .ref h0_10, .ref h0_11, .ref h0_12])), (h0_7, .inl (yh0_7, 720, .inl fh0_7)), (h0_9, .inl (yh0_9, 60, .inl fh0_9)), (a3, .inl (ya3, 60, .inl fa3))] U.heap ∧ va_K (dC, dI) vwCl [(yh0_7, .int), (yh0_9, .int), (ya3, .int)] U ∧ va_D (fun _ => True) [(h0, .inr (0, [.int h0_0, .int h0_1, .ref h0_2, .ref h0_3, .ref h0_4, .ref h0_5, .ref h0_6, .ref h0_7, .ref h0_8, .ref h0_9, .ref h0_10, .ref h0_11, .ref h0_12])), (h0_7, .inl (yh0_7, 720, .inl fh0_7)), (h0_9, .inl (yh0_9, 60, .inl fh0_9)), (a3, .inl (ya3, 60, .inl fa3))])) (va_Qi (fun (r : Int32) (_ : Unit) => True) (fun (_ : Unit) (t : State) => va_P (dC, dI) vwCl [(h0, .inr (0, [.int h0_0, .int h0_1, .ref h0_2, .ref h0_3, .ref h0_4, .ref h0_5, .ref h0_6, .ref h0_7, .ref h0_8, .ref h0_9, .ref h0_10, .ref h0_11, .ref h0_12])), (h0_7, .inl (yh0_7, 720, .inl fh0_7)), (h0_9, .inl (yh0_9, 60, .inl fh0_9)), (a3, .inl (ya3, 60, .inl fa3))] t.heap ∧ va_K (dC, dI) vwCl [(yh0_7, .int), (yh0_9, .int), (ya3, .int)] t ∧ va_D (va_A [(h0, .inr (0, [.int h0_0, .int h0_1, .ref h0_2, .ref h0_3, .ref h0_4, .ref h0_5, .ref h0_6, .ref h0_7, .ref h0_8, .ref h0_9, .ref h0_10, .ref h0_11, .ref h0_12])), (h0_7, .inl (yh0_7, 720, .inl fh0_7)), (h0_9, .inl (yh0_9, 60, .inl fh0_9)), (a3, .inl (ya3, 60, .inl fa3))] sz) [(h0, .inr (0, [.int h0_0, .int h0_1, .ref h0_2, .ref h0_3, .ref h0_4, .ref h0_5, .ref h0_6, .ref h0_7, .ref h0_8, .ref h0_9, .ref h0_10, .ref h0_11, .ref h0_12])), (h0_7, .inl (yh0_7, 720, .inl fh0_7)), (h0_9, .inl (yh0_9, 60, .inl fh0_9)), (a3, .inl (ya3, 60, .inl fa3))]) (va_A [(h0, .inr (0, [.int h0_0, .int h0_1, .ref h0_2, .ref h0_3, .ref h0_4, .ref h0_5, .ref h0_6, .ref h0_7, .ref h0_8, .ref h0_9, .ref h0_10, .ref h0_11, .ref h0_12])), (h0_7, .inl (yh0_7, 720, .inl fh0_7)), (h0_9, .inl (yh0_9, 60, .inl fh0_9)), (a3, .inl (ya3, 60, .inl fa3))] sz)) 0 0 (va_A [(h0, .inr (0, [.int h0_0, .int h0_1, .ref h0_2, .ref h0_3, .ref h0_4, .ref h0_5, .ref h0_6, .ref h0_7, .ref h0_8, .ref h0_9, .ref h0_10, .ref h0_11, .ref h0_12])), (h0_7, .inl (yh0_7, 720, .inl fh0_7)), (h0_9, .inl (yh0_9, 60, .inl fh0_9)), (a3, .inl (ya3, 60, .inl fa3))] sz) := by
  refine Met.ofW (cc := cX2_driverValue) (maxL := 7) (ret := (some .int)) (by decide +kernel) rfl ?_
  intro p e s m args below meth c s₁ B hml hv
  obtain ⟨rfl, hsz, hP, hK, hD0⟩ := hv
  have hx := B.exec
  have hb := B.bytes
  have hr := B.returns
  have hts := atoms_spec (ws := wsX2_driverValue) B.pre
  have hown : s.vm.findClass RX2 = some m.cls := findClass_of_methodNamed B.named
  have hlocks := B.notSynchronized
  subst hsz
  have hD := hD0.self (sz := s.heap.size)
  generalize hAe : va_A [(h0, .inr (0, [.int h0_0, .int h0_1, .ref h0_2, .ref h0_3, .ref h0_4, .ref h0_5, .ref h0_6, .ref h0_7, .ref h0_8, .ref h0_9, .ref h0_10, .ref h0_11, .ref h0_12])), (h0_7, .inl (yh0_7, 720, .inl fh0_7)), (h0_9, .inl (yh0_9, 60, .inl fh0_9)), (a3, .inl (ya3, 60, .inl fa3))] s.heap.size = A at hD ⊢
  have hA : ∀ q : Nat, s.heap.size ≤ q → A q := fun q h => by rw [← hAe]; exact Or.inr h
  have hS : va_S A s.heap s.heap [] := va_S.rf
  have hP : va_P (dC, dI) vwCl [(h0, .inr (0, [.int h0_0, .int h0_1, .ref h0_2, .ref h0_3, .ref h0_4, .ref h0_5, .ref h0_6, .ref h0_7, .ref h0_8, .ref h0_9, .ref h0_10, .ref h0_11, .ref h0_12])), (h0_7, .inl (yh0_7, 720, .inl fh0_7)), (h0_9, .inl (yh0_9, 60, .inl fh0_9)), (a3, .inl (ya3, 60, .inl fa3))] s.heap := hP
  have hl := lv_entry ([.ref h0, .int p1, .int p2, .ref a3]) (n := 7) (Nat.le_of_ble_eq_true rfl)
  rw [lg_entry_eq]
  generalize (lg_sl ([.ref h0, .int p1, .int p2, .ref a3]) ++ List.replicate (7 - (lg_sl ([.ref h0, .int p1, .int p2, .ref a3])).length) Slot.unset).toArray = ls at hl ⊢
  have hl : lv_has ls 7 [(0, .ref h0), (1, .int p1), (2, .int p2), (3, .ref a3)] := hl
  refine lv_aload_n hx hb dX2_driverValue_0 rfl (lv_at hl 3 rfl) ?_
  refine lv_aload_n hx hb dX2_driverValue_1 rfl (lv_at hl 0 rfl) ?_
  refine lv_iload_n hx hb dX2_driverValue_2 rfl (lv_at hl 1 rfl) ?_
  refine lv_iconst (v := 2) hx hb dX2_driverValue_3 (by decide) ?_
  refine lv_iload_n hx hb dX2_driverValue_4 rfl (lv_at hl 2 rfl) ?_
  refine lv_imul hx hb dX2_driverValue_5 ?_
  refine lv_topi (fun zy1 ezy1 => ?_)
  have by2 : IV 0 10 zy1 := IV_mul ezy1 (IV_mk (a := 2) (b := 2) (by decide) (by decide)) hy_p2 (by decide) (by decide) (by decide) (by decide) (by decide)
  have hPc := hP.sub (ws' := [(h0, .inr (0, [.int h0_0, .int h0_1, .ref h0_2, .ref h0_3, .ref h0_4, .ref h0_5, .ref h0_6, .ref h0_7, .ref h0_8, .ref h0_9, .ref h0_10, .ref h0_11, .ref h0_12])), (h0_7, .inl (yh0_7, 720, .inl fh0_7))]) [0, 1] rfl
  have hDc := hD.sub (ws' := [(h0, .inr (0, [.int h0_0, .int h0_1, .ref h0_2, .ref h0_3, .ref h0_4, .ref h0_5, .ref h0_6, .ref h0_7, .ref h0_8, .ref h0_9, .ref h0_10, .ref h0_11, .ref h0_12])), (h0_7, .inl (yh0_7, 720, .inl fh0_7))]) [0, 1] (by decide) rfl
  have hKc := hK.sub (tys' := [(yh0_7, .int)]) [0] rfl
  have hFc := va_free (wc := [(h0, .inr (0, [.int h0_0, .int h0_1, .ref h0_2, .ref h0_3, .ref h0_4, .ref h0_5, .ref h0_6, .ref h0_7, .ref h0_8, .ref h0_9, .ref h0_10, .ref h0_11, .ref h0_12])), (h0_7, .inl (yh0_7, 720, .inl fh0_7))]) hD hS hA [0, 1] rfl
  refine va_calli (va_runV (As := [.int p1, .int zy1]) (rest := [.ref a3]) ⟨hx, hb, hml, hown, hts⟩ (s_X0_part l dC dI h0 h0_7 h0_0 h0_1 h0_2 h0_3 h0_4 h0_5 h0_6 h0_8 h0_9 h0_10 h0_11 h0_12 yh0_7 fh0_7 p1 zy1 s.heap.size hy_h0_0 hy_p1 (IV_wk by2 (by decide) (by decide)) hy_fh0_7) (cwV 2 hts gX2_driverValue_X0_part rfl rfl rfl (by decide +kernel) ⟨Nat.le_of_ble_eq_true rfl, Nat.le_of_ble_eq_true rfl⟩) ⟨fun a U g mk q => by obtain ⟨q0, q1, qP, qK, qD⟩ := q; exact ⟨q0, q1, qP, va_K.moved (u := U) (U := U.calling g mk a) (Vm.Alike.refl U.vm) qK, qD⟩, va_recv hKc hPc (ci := 0) (q0 := 0) rfl rfl, fun U hU hW => ⟨rfl, by rw [hU], by rw [hU]; exact hPc, va_K.moved hW.alike hKc, hDc.weaken (fun _ _ _ _ => trivial)⟩⟩ rfl rfl hl.1 rfl (lv_room (Nat.le_of_ble_eq_true rfl)) dX2_driverValue_6 ⟨Nat.le_of_ble_eq_true rfl, Nat.le_of_ble_eq_true rfl⟩) hS (fun q _ h => hFc q h) hFc (fun ry4 u t Hy3 locs ht hvm hw hB hz1 hk1 hS => ?_)
  obtain ⟨hP1, hK1, hD1⟩ := hB
  rw [ht] at hP1
  obtain ⟨hP, hD⟩ := va_join (wr := [(h0_9, .inl (yh0_9, 60, .inl fh0_9)), (a3, .inl (ya3, 60, .inl fa3))]) (w1 := [(h0, .inr (0, [.int h0_0, .int h0_1, .ref h0_2, .ref h0_3, .ref h0_4, .ref h0_5, .ref h0_6, .ref h0_7, .ref h0_8, .ref h0_9, .ref h0_10, .ref h0_11, .ref h0_12])), (h0_7, .inl (yh0_7, 720, .inl fh0_7))]) hP hD [0, 1] [2, 3] rfl rfl (by decide) (by decide) hk1 hFc hP1 hD1
  have hP := hP.sub (ws' := [(h0, .inr (0, [.int h0_0, .int h0_1, .ref h0_2, .ref h0_3, .ref h0_4, .ref h0_5, .ref h0_6, .ref h0_7, .ref h0_8, .ref h0_9, .ref h0_10, .ref h0_11, .ref h0_12])), (h0_7, .inl (yh0_7, 720, .inl fh0_7)), (h0_9, .inl (yh0_9, 60, .inl fh0_9)), (a3, .inl (ya3, 60, .inl fa3))]) [2, 3, 0, 1] rfl
  have hD := hD.sub (ws' := [(h0, .inr (0, [.int h0_0, .int h0_1, .ref h0_2, .ref h0_3, .ref h0_4, .ref h0_5, .ref h0_6, .ref h0_7, .ref h0_8, .ref h0_9, .ref h0_10, .ref h0_11, .ref h0_12])), (h0_7, .inl (yh0_7, 720, .inl fh0_7)), (h0_9, .inl (yh0_9, 60, .inl fh0_9)), (a3, .inl (ya3, 60, .inl fa3))]) [2, 3, 0, 1] (by decide) rfl
  have hP : va_P (dC, dI) vwCl [(h0, .inr (0, [.int h0_0, .int h0_1, .ref h0_2, .ref h0_3, .ref h0_4, .ref h0_5, .ref h0_6, .ref h0_7, .ref h0_8, .ref h0_9, .ref h0_10, .ref h0_11, .ref h0_12])), (h0_7, .inl (yh0_7, 720, .inl fh0_7)), (h0_9, .inl (yh0_9, 60, .inl fh0_9)), (a3, .inl (ya3, 60, .inl fa3))] Hy3 := hP
  have hD : va_D A [(h0, .inr (0, [.int h0_0, .int h0_1, .ref h0_2, .ref h0_3, .ref h0_4, .ref h0_5, .ref h0_6, .ref h0_7, .ref h0_8, .ref h0_9, .ref h0_10, .ref h0_11, .ref h0_12])), (h0_7, .inl (yh0_7, 720, .inl fh0_7)), (h0_9, .inl (yh0_9, 60, .inl fh0_9)), (a3, .inl (ya3, 60, .inl fa3))] := hD
  have by5 : IV 0 59 ry4 := hw
  refine va_iald hx hb hK hP 3 2 rfl rfl (IV_in by5 (by decide) (by decide)) dX2_driverValue_9 ?_
  refine lv_topi (fun zy6 ezy6 => ?_)
  refine lv_istore (lv' := [(4, .int zy6), (0, .ref h0), (1, .int p1), (2, .int p2), (3, .ref a3)]) hx hb dX2_driverValue_10 hl (by decide) rfl (fun ls hl => ?_)
  refine lv_aload_n hx hb dX2_driverValue_12 rfl (lv_at hl 4 rfl) ?_
  refine lv_aload_n hx hb dX2_driverValue_13 rfl (lv_at hl 1 rfl) ?_
  refine lv_iload_n hx hb dX2_driverValue_14 rfl (lv_at hl 2 rfl) ?_
  refine lv_iconst (v := 2) hx hb dX2_driverValue_15 (by decide) ?_
  refine lv_iload_n hx hb dX2_driverValue_16 rfl (lv_at hl 3 rfl) ?_
  refine lv_imul hx hb dX2_driverValue_17 ?_
  refine lv_topi (fun zy7 ezy7 => ?_)
  have by8 : IV 0 10 zy7 := IV_mul ezy7 (IV_mk (a := 2) (b := 2) (by decide) (by decide)) hy_p2 (by decide) (by decide) (by decide) (by decide) (by decide)
  refine lv_iconst (v := 1) hx hb dX2_driverValue_18 (by decide) ?_
  refine lv_iadd hx hb dX2_driverValue_19 ?_
  refine lv_topi (fun zy9 ezy9 => ?_)
  have by10 : IV 1 11 zy9 := IV_add ezy9 by8 (IV_mk (a := 1) (b := 1) (by decide) (by decide)) (by decide) (by decide) (by decide) (by decide)
  have hPc := hP.sub (ws' := [(h0, .inr (0, [.int h0_0, .int h0_1, .ref h0_2, .ref h0_3, .ref h0_4, .ref h0_5, .ref h0_6, .ref h0_7, .ref h0_8, .ref h0_9, .ref h0_10, .ref h0_11, .ref h0_12])), (h0_7, .inl (yh0_7, 720, .inl fh0_7))]) [0, 1] rfl
  have hDc := hD.sub (ws' := [(h0, .inr (0, [.int h0_0, .int h0_1, .ref h0_2, .ref h0_3, .ref h0_4, .ref h0_5, .ref h0_6, .ref h0_7, .ref h0_8, .ref h0_9, .ref h0_10, .ref h0_11, .ref h0_12])), (h0_7, .inl (yh0_7, 720, .inl fh0_7))]) [0, 1] (by decide) rfl
  have hKc := hK.sub (tys' := [(yh0_7, .int)]) [0] rfl
  have hFc := va_free (wc := [(h0, .inr (0, [.int h0_0, .int h0_1, .ref h0_2, .ref h0_3, .ref h0_4, .ref h0_5, .ref h0_6, .ref h0_7, .ref h0_8, .ref h0_9, .ref h0_10, .ref h0_11, .ref h0_12])), (h0_7, .inl (yh0_7, 720, .inl fh0_7))]) hD hS hA [0, 1] rfl
  refine va_calli (va_runV (As := [.int p1, .int zy9]) (rest := [.ref a3]) ⟨hx, hb, hml, hown, hts⟩ (s_X0_part l dC dI h0 h0_7 h0_0 h0_1 h0_2 h0_3 h0_4 h0_5 h0_6 h0_8 h0_9 h0_10 h0_11 h0_12 yh0_7 fh0_7 p1 zy9 Hy3.size hy_h0_0 hy_p1 (IV_wk by10 (by decide) (by decide)) hy_fh0_7) (cwV 2 hts gX2_driverValue_X0_part rfl rfl rfl (by decide +kernel) ⟨Nat.le_of_ble_eq_true rfl, Nat.le_of_ble_eq_true rfl⟩) ⟨fun a U g mk q => by obtain ⟨q0, q1, qP, qK, qD⟩ := q; exact ⟨q0, q1, qP, va_K.moved (u := U) (U := U.calling g mk a) (Vm.Alike.refl U.vm) qK, qD⟩, va_recv hKc hPc (ci := 0) (q0 := 0) rfl rfl, fun U hU hW => ⟨rfl, by rw [hU], by rw [hU]; exact hPc, va_K.moved hW.alike hKc, hDc.weaken (fun _ _ _ _ => trivial)⟩⟩ rfl rfl hl.1 rfl (lv_room (Nat.le_of_ble_eq_true rfl)) dX2_driverValue_20 ⟨Nat.le_of_ble_eq_true rfl, Nat.le_of_ble_eq_true rfl⟩) hS (fun q _ h => hFc q h) hFc (fun ry12 u t Hy11 locs ht hvm hw hB hz1 hk1 hS => ?_)
  obtain ⟨hP1, hK1, hD1⟩ := hB
  rw [ht] at hP1
  obtain ⟨hP, hD⟩ := va_join (wr := [(h0_9, .inl (yh0_9, 60, .inl fh0_9)), (a3, .inl (ya3, 60, .inl fa3))]) (w1 := [(h0, .inr (0, [.int h0_0, .int h0_1, .ref h0_2, .ref h0_3, .ref h0_4, .ref h0_5, .ref h0_6, .ref h0_7, .ref h0_8, .ref h0_9, .ref h0_10, .ref h0_11, .ref h0_12])), (h0_7, .inl (yh0_7, 720, .inl fh0_7))]) hP hD [0, 1] [2, 3] rfl rfl (by decide) (by decide) hk1 hFc hP1 hD1
  have hP := hP.sub (ws' := [(h0, .inr (0, [.int h0_0, .int h0_1, .ref h0_2, .ref h0_3, .ref h0_4, .ref h0_5, .ref h0_6, .ref h0_7, .ref h0_8, .ref h0_9, .ref h0_10, .ref h0_11, .ref h0_12])), (h0_7, .inl (yh0_7, 720, .inl fh0_7)), (h0_9, .inl (yh0_9, 60, .inl fh0_9)), (a3, .inl (ya3, 60, .inl fa3))]) [2, 3, 0, 1] rfl
  have hD := hD.sub (ws' := [(h0, .inr (0, [.int h0_0, .int h0_1, .ref h0_2, .ref h0_3, .ref h0_4, .ref h0_5, .ref h0_6, .ref h0_7, .ref h0_8, .ref h0_9, .ref h0_10, .ref h0_11, .ref h0_12])), (h0_7, .inl (yh0_7, 720, .inl fh0_7)), (h0_9, .inl (yh0_9, 60, .inl fh0_9)), (a3, .inl (ya3, 60, .inl fa3))]) [2, 3, 0, 1] (by decide) rfl
  have hP : va_P (dC, dI) vwCl [(h0, .inr (0, [.int h0_0, .int h0_1, .ref h0_2, .ref h0_3, .ref h0_4, .ref h0_5, .ref h0_6, .ref h0_7, .ref h0_8, .ref h0_9, .ref h0_10, .ref h0_11, .ref h0_12])), (h0_7, .inl (yh0_7, 720, .inl fh0_7)), (h0_9, .inl (yh0_9, 60, .inl fh0_9)), (a3, .inl (ya3, 60, .inl fa3))] Hy11 := hP
  have hD : va_D A [(h0, .inr (0, [.int h0_0, .int h0_1, .ref h0_2, .ref h0_3, .ref h0_4, .ref h0_5, .ref h0_6, .ref h0_7, .ref h0_8, .ref h0_9, .ref h0_10, .ref h0_11, .ref h0_12])), (h0_7, .inl (yh0_7, 720, .inl fh0_7)), (h0_9, .inl (yh0_9, 60, .inl fh0_9)), (a3, .inl (ya3, 60, .inl fa3))] := hD
  have by13 : IV 0 59 ry12 := hw
  refine va_iald hx hb hK hP 3 2 rfl rfl (IV_in by13 (by decide) (by decide)) dX2_driverValue_23 ?_
  refine lv_topi (fun zy14 ezy14 => ?_)
  refine lv_istore (lv' := [(5, .int zy14), (4, .int zy6), (0, .ref h0), (1, .int p1), (2, .int p2), (3, .ref a3)]) hx hb dX2_driverValue_24 hl (by decide) rfl (fun ls hl => ?_)
  refine lv_iload hx hb dX2_driverValue_26 (lv_at hl 0 rfl) ?_
  refine lv_iconst (v := 2) hx hb dX2_driverValue_28 (by decide) ?_
  refine lv_icmp_lt (tgt := 34) hx hb dX2_driverValue_29 (by decide) (fun cy15 => ?_) (fun cy15 => ?_)
  · have h_cy15 := cy15
    have by16 : IV (-2147483648) 1 zy14 := IV_lt_l cy15 (IV_top zy14) (IV_mk (a := 2) (b := 2) (by decide) (by decide)) (by decide) (by decide)
    refine lv_aload_n hx hb dX2_driverValue_34 rfl (lv_at hl 2 rfl) ?_
    refine lv_iload_n hx hb dX2_driverValue_35 rfl (lv_at hl 3 rfl) ?_
    refine lv_iload_n hx hb dX2_driverValue_36 rfl (lv_at hl 4 rfl) ?_
    have hPc := hP.sub (ws' := [(h0, .inr (0, [.int h0_0, .int h0_1, .ref h0_2, .ref h0_3, .ref h0_4, .ref h0_5, .ref h0_6, .ref h0_7, .ref h0_8, .ref h0_9, .ref h0_10, .ref h0_11, .ref h0_12])), (h0_9, .inl (yh0_9, 60, .inl fh0_9))]) [0, 2] rfl
    have hDc := hD.sub (ws' := [(h0, .inr (0, [.int h0_0, .int h0_1, .ref h0_2, .ref h0_3, .ref h0_4, .ref h0_5, .ref h0_6, .ref h0_7, .ref h0_8, .ref h0_9, .ref h0_10, .ref h0_11, .ref h0_12])), (h0_9, .inl (yh0_9, 60, .inl fh0_9))]) [0, 2] (by decide) rfl
    have hKc := hK.sub (tys' := [(yh0_9, .int)]) [1] rfl
    have hFc := va_free (wc := [(h0, .inr (0, [.int h0_0, .int h0_1, .ref h0_2, .ref h0_3, .ref h0_4, .ref h0_5, .ref h0_6, .ref h0_7, .ref h0_8, .ref h0_9, .ref h0_10, .ref h0_11, .ref h0_12])), (h0_9, .inl (yh0_9, 60, .inl fh0_9))]) hD hS hA [0, 2] rfl
    refine va_calli (va_runV (As := [.int p1, .int p2]) (rest := []) ⟨hx, hb, hml, hown, hts⟩ (s_X0_isLow l dC dI h0 h0_9 h0_0 h0_1 h0_2 h0_3 h0_4 h0_5 h0_6 h0_7 h0_8 h0_10 h0_11 h0_12 yh0_9 fh0_9 p1 p2 Hy11.size hy_h0_0 hy_p1) (cwV 2 hts gX2_driverValue_X0_isLow rfl rfl rfl (by decide +kernel) ⟨Nat.le_of_ble_eq_true rfl, Nat.le_of_ble_eq_true rfl⟩) ⟨fun a U g mk q => by obtain ⟨q0, q1, qP, qK, qD⟩ := q; exact ⟨q0, q1, qP, va_K.moved (u := U) (U := U.calling g mk a) (Vm.Alike.refl U.vm) qK, qD⟩, va_recv hKc hPc (ci := 0) (q0 := 0) rfl rfl, fun U hU hW => ⟨rfl, by rw [hU], by rw [hU]; exact hPc, va_K.moved hW.alike hKc, hDc.weaken (fun _ _ _ _ => trivial)⟩⟩ rfl rfl hl.1 rfl (lv_room (Nat.le_of_ble_eq_true rfl)) dX2_driverValue_37 ⟨Nat.le_of_ble_eq_true rfl, Nat.le_of_ble_eq_true rfl⟩) hS (fun q _ h => hFc q h) hFc (fun ry18 u t Hy17 locs ht hvm hw hB hz1 hk1 hS => ?_)
    obtain ⟨hP1, hK1, hD1⟩ := hB
    rw [ht] at hP1
    obtain ⟨hP, hD⟩ := va_join (wr := [(h0_7, .inl (yh0_7, 720, .inl fh0_7)), (a3, .inl (ya3, 60, .inl fa3))]) (w1 := [(h0, .inr (0, [.int h0_0, .int h0_1, .ref h0_2, .ref h0_3, .ref h0_4, .ref h0_5, .ref h0_6, .ref h0_7, .ref h0_8, .ref h0_9, .ref h0_10, .ref h0_11, .ref h0_12])), (h0_9, .inl (yh0_9, 60, .inl fh0_9))]) hP hD [0, 2] [1, 3] rfl rfl (by decide) (by decide) hk1 hFc hP1 hD1
    have hP := hP.sub (ws' := [(h0, .inr (0, [.int h0_0, .int h0_1, .ref h0_2, .ref h0_3, .ref h0_4, .ref h0_5, .ref h0_6, .ref h0_7, .ref h0_8, .ref h0_9, .ref h0_10, .ref h0_11, .ref h0_12])), (h0_7, .inl (yh0_7, 720, .inl fh0_7)), (h0_9, .inl (yh0_9, 60, .inl fh0_9)), (a3, .inl (ya3, 60, .inl fa3))]) [2, 0, 3, 1] rfl
    have hD := hD.sub (ws' := [(h0, .inr (0, [.int h0_0, .int h0_1, .ref h0_2, .ref h0_3, .ref h0_4, .ref h0_5, .ref h0_6, .ref h0_7, .ref h0_8, .ref h0_9, .ref h0_10, .ref h0_11, .ref h0_12])), (h0_7, .inl (yh0_7, 720, .inl fh0_7)), (h0_9, .inl (yh0_9, 60, .inl fh0_9)), (a3, .inl (ya3, 60, .inl fa3))]) [2, 0, 3, 1] (by decide) rfl
    have hP : va_P (dC, dI) vwCl [(h0, .inr (0, [.int h0_0, .int h0_1, .ref h0_2, .ref h0_3, .ref h0_4, .ref h0_5, .ref h0_6, .ref h0_7, .ref h0_8, .ref h0_9, .ref h0_10, .ref h0_11, .ref h0_12])), (h0_7, .inl (yh0_7, 720, .inl fh0_7)), (h0_9, .inl (yh0_9, 60, .inl fh0_9)), (a3, .inl (ya3, 60, .inl fa3))] Hy17 := hP
    have hD : va_D A [(h0, .inr (0, [.int h0_0, .int h0_1, .ref h0_2, .ref h0_3, .ref h0_4, .ref h0_5, .ref h0_6, .ref h0_7, .ref h0_8, .ref h0_9, .ref h0_10, .ref h0_11, .ref h0_12])), (h0_7, .inl (yh0_7, 720, .inl fh0_7)), (h0_9, .inl (yh0_9, 60, .inl fh0_9)), (a3, .inl (ya3, 60, .inl fa3))] := hD
    have by19 : IV 0 1 ry18 := hw
    refine W_abs (fun GWy22 eGy23 => ?_)
    have jny24 : ∀ (my21 : Int32) (HGWy22 : Heap) (locs : List Loc) (ls : Array Slot), IV 0 1 my21 → va_P (dC, dI) vwCl [(h0, .inr (0, [.int h0_0, .int h0_1, .ref h0_2, .ref h0_3, .ref h0_4, .ref h0_5, .ref h0_6, .ref h0_7, .ref h0_8, .ref h0_9, .ref h0_10, .ref h0_11, .ref h0_12])), (h0_7, .inl (yh0_7, 720, .inl fh0_7)), (h0_9, .inl (yh0_9, 60, .inl fh0_9)), (a3, .inl (ya3, 60, .inl fa3))] HGWy22 → va_D A [(h0, .inr (0, [.int h0_0, .int h0_1, .ref h0_2, .ref h0_3, .ref h0_4, .ref h0_5, .ref h0_6, .ref h0_7, .ref h0_8, .ref h0_9, .ref h0_10, .ref h0_11, .ref h0_12])), (h0_7, .inl (yh0_7, 720, .inl fh0_7)), (h0_9, .inl (yh0_9, 60, .inl fh0_9)), (a3, .inl (ya3, 60, .inl fa3))] → va_S A s.heap HGWy22 locs → lv_has ls 7 [(5, .int zy14), (4, .int zy6), (0, .ref h0), (1, .int p1), (2, .int p2), (3, .ref a3)] → GWy22 HGWy22 locs 0 0 (F0 m 48 ls [.int my21]) := by
      intro my21 HGWy22 locs ls hmy21 hP hD hS hl
      refine (eGy23 _ _ _ _ _).mpr ?_
      refine lv_istore (lv' := [(6, .int my21), (5, .int zy14), (4, .int zy6), (0, .ref h0), (1, .int p1), (2, .int p2), (3, .ref a3)]) hx hb dX2_driverValue_48 hl (by decide) rfl (fun ls hl => ?_)
      refine lv_iload hx hb dX2_driverValue_50 (lv_at hl 1 rfl) ?_
      refine lv_iload hx hb dX2_driverValue_52 (lv_at hl 0 rfl) ?_
      refine lv_icmp_ne (tgt := 65) hx hb dX2_driverValue_54 (by decide) (fun cy25 => ?_) (fun cy25 => ?_)
      · have h_cy25 := cy25
        refine lv_iconst (v := 3) hx hb dX2_driverValue_65 (by decide) ?_
        exact W.iret (v := 3) hx hb hr (fun t ht hW => ⟨⟨3, (), rfl, trivial, by rw [ht]; exact hP, va_K.moved hW.alike hK, hD⟩, hS.F ht⟩) hS.2.2 dX2_driverValue_66
      · have h_cy25 := cy25
        have by26 : IV 0 1 zy14 := IV_eq_l cy25 by16 hmy21 (by decide) (by decide)
        refine lv_iload hx hb dX2_driverValue_57 (lv_at hl 2 rfl) ?_
        have hPc := hP.sub (ws' := []) [] rfl
        have hDc := hD.sub (ws' := []) [] (by decide) rfl
        have hKc := hK.sub (tys' := []) [] rfl
        have hFc := va_free (wc := []) hD hS hA [] rfl
        refine va_calli (va_runS (As := [.int zy6]) (rest := []) ⟨hx, hb, hml, hown, hts⟩ (s_X2_takenIn l dC dI zy6 HGWy22.size) (va_cwS 1 hts gX2_driverValue_X2_takenIn rfl rfl rfl (by decide +kernel) ⟨Nat.le_of_ble_eq_true rfl, Nat.le_of_ble_eq_true rfl⟩) ⟨fun a U g mk q => by obtain ⟨q0, q1, qP, qK, qD⟩ := q; exact ⟨q0, q1, qP, va_K.moved (u := U) (U := U.calling g mk a) (Vm.Alike.refl U.vm) qK, qD⟩, fun U hU hW => ⟨rfl, by rw [hU], by rw [hU]; exact hPc, va_K.moved hW.alike hKc, hDc.weaken (fun _ _ _ _ => trivial)⟩⟩ rfl rfl hl.1 rfl (lv_room (Nat.le_of_ble_eq_true rfl)) dX2_driverValue_59 ⟨Nat.le_of_ble_eq_true rfl, Nat.le_of_ble_eq_true rfl⟩) hS (fun q _ h => hFc q h) hFc (fun ry28 u t Hy27 locs ht hvm hw hB hz1 hk1 hS => ?_)
        obtain ⟨hP1, hK1, hD1⟩ := hB
        rw [ht] at hP1
        obtain ⟨hP, hD⟩ := va_join (wr := [(h0, .inr (0, [.int h0_0, .int h0_1, .ref h0_2, .ref h0_3, .ref h0_4, .ref h0_5, .ref h0_6, .ref h0_7, .ref h0_8, .ref h0_9, .ref h0_10, .ref h0_11, .ref h0_12])), (h0_7, .inl (yh0_7, 720, .inl fh0_7)), (h0_9, .inl (yh0_9, 60, .inl fh0_9)), (a3, .inl (ya3, 60, .inl fa3))]) (w1 := []) hP hD [] [0, 1, 2, 3] rfl rfl (by decide) (by decide) hk1 hFc hP1 hD1
        have hP : va_P (dC, dI) vwCl [(h0, .inr (0, [.int h0_0, .int h0_1, .ref h0_2, .ref h0_3, .ref h0_4, .ref h0_5, .ref h0_6, .ref h0_7, .ref h0_8, .ref h0_9, .ref h0_10, .ref h0_11, .ref h0_12])), (h0_7, .inl (yh0_7, 720, .inl fh0_7)), (h0_9, .inl (yh0_9, 60, .inl fh0_9)), (a3, .inl (ya3, 60, .inl fa3))] Hy27 := hP
        have hD : va_D A [(h0, .inr (0, [.int h0_0, .int h0_1, .ref h0_2, .ref h0_3, .ref h0_4, .ref h0_5, .ref h0_6, .ref h0_7, .ref h0_8, .ref h0_9, .ref h0_10, .ref h0_11, .ref h0_12])), (h0_7, .inl (yh0_7, 720, .inl fh0_7)), (h0_9, .inl (yh0_9, 60, .inl fh0_9)), (a3, .inl (ya3, 60, .inl fa3))] := hD
        refine lv_goto (tgt := 66) hx hb dX2_driverValue_62 (by decide) ?_
        exact W.iret (v := ry28) hx hb hr (fun t ht hW => ⟨⟨ry28, (), rfl, trivial, by rw [ht]; exact hP, va_K.moved hW.alike hK, hD⟩, hS.F ht⟩) hS.2.2 dX2_driverValue_66
    refine (eGy23 _ _ _ _ _).mpr ?_
    refine lv_if_eq (tgt := 47) hx hb dX2_driverValue_40 (by decide) (fun cy20 => ?_) (fun cy20 => ?_)
    · have h_cy20 := cy20
      have by29 : IV 0 0 ry18 := IV_eq_l cy20 by19 (IV_mk (a := 0) (b := 0) (by decide) (by decide)) (by decide) (by decide)
      refine lv_iconst (v := 1) hx hb dX2_driverValue_47 (by decide) ?_
      exact (eGy23 _ _ _ _ _).mp (jny24 1 _ _ _ (IV_mk (by decide) (by decide)) hP hD hS (lv_sub hl [0, 1, 2, 3, 4, 5] rfl))
    · have h_cy20 := cy20
      have by30 : IV 1 1 ry18 := IV_ne_lo cy20 by19 (IV_mk (a := 0) (b := 0) (by decide) (by decide)) (by decide) (by decide) (by decide)
      refine lv_iconst (v := 0) hx hb dX2_driverValue_43 (by decide) ?_
      refine lv_goto (tgt := 48) hx hb dX2_driverValue_44 (by decide) ?_
      exact (eGy23 _ _ _ _ _).mp (jny24 0 _ _ _ (IV_mk (by decide) (by decide)) hP hD hS (lv_sub hl [0, 1, 2, 3, 4, 5] rfl))
  · have h_cy15 := cy15
    have by31 : IV 2 2147483647 zy14 := IV_nlt_l cy15 (IV_top zy14) (IV_mk (a := 2) (b := 2) (by decide) (by decide)) (by decide) (by decide)
    refine lv_iconst (v := 2) hx hb dX2_driverValue_32 (by decide) ?_
    exact W.iret (v := 2) hx hb hr (fun t ht hW => ⟨⟨2, (), rfl, trivial, by rw [ht]; exact hP, va_K.moved hW.alike hK, hD⟩, hS.F ht⟩) hS.2.2 dX2_driverValue_33

set_option maxHeartbeats 4000000 in
set_option maxRecDepth 100000 in
theorem s_X2_busValue (l : Launch) (dC : Nat → ClassId) (dI : Nat → Nat → Nat) (h0 : Nat) (h0_4 : Nat) (h0_7 : Nat) (h0_8 : Nat) (h0_9 : Nat) (a3 : Nat) (h0_0 : Int32) (h0_1 : Int32) (h0_2 : Nat) (h0_3 : Nat) (h0_5 : Nat) (h0_6 : Nat) (h0_10 : Nat) (h0_11 : Nat) (h0_12 : Nat) (yh0_4 : ClassId) (fh0_4 : Nat → Int32) (yh0_7 : ClassId) (fh0_7 : Nat → Int32) (yh0_8 : ClassId) (fh0_8 : Nat → Int32) (yh0_9 : ClassId) (fh0_9 : Nat → Int32) (ya3 : ClassId) (fa3 : Nat → Int32) (p1 : Int32) (kz : Int32) (sz : Nat) (ekz : kz = fh0_4 p1.toNatClampNeg) (hy_kz : IV 1 1 kz) (hy_h0_0 : IV 0 60 h0_0) (hy_p1 : IV 0 59 p1) (hy_fh0_7 : AR 0 59 fh0_7) (hy_fh0_8 : AR 0 12 fh0_8) : Met l yX2_busValue wsX2_busValue ({ frames := 2, cells := 0, slots := 0, locals := 48 }) (va_Pc [.ref h0, .int p1, .ref a3] (fun U => U.heap.size = sz ∧ va_P (dC, dI) vwCl [(h0, .inr (0, [.int h0_0, .int h0_1, .ref h0_2, .ref h0_3, .ref h0_4, .ref h0_5, .ref h0_6, .ref h0_7, .ref h0_8, .ref h0_9, .ref h0_10, .ref h0_11, .ref h0_12])), (h0_4, .inl (yh0_4, 60, .inl fh0_4)), (h0_7, .inl (yh0_7, 720, .inl fh0_7)), (h0_8, .inl (yh0_8, 60, .inl fh0_8)), (h0_9, .inl (yh0_9, 60, .inl fh0_9)), (a3, .inl (ya3, 60, .inl fa3))] U.heap ∧ va_K (dC, dI) vwCl [(yh0_4, .int), (yh0_7, .int), (yh0_8, .int), (yh0_9, .int), (ya3, .int)] U ∧ va_D (fun _ => True) [(h0, .inr (0, [.int h0_0, .int h0_1, .ref h0_2, .ref h0_3, .ref h0_4, .ref h0_5, .ref h0_6, .ref h0_7, .ref h0_8, .ref h0_9, .ref h0_10, .ref h0_11, .ref h0_12])), (h0_4, .inl (yh0_4, 60, .inl fh0_4)), (h0_7, .inl (yh0_7, 720, .inl fh0_7)), (h0_8, .inl (yh0_8, 60, .inl fh0_8)), (h0_9, .inl (yh0_9, 60, .inl fh0_9)), (a3, .inl (ya3, 60, .inl fa3))])) (va_Qi (fun (r : Int32) (_ : Unit) => True) (fun (_ : Unit) (t : State) => va_P (dC, dI) vwCl [(h0, .inr (0, [.int h0_0, .int h0_1, .ref h0_2, .ref h0_3, .ref h0_4, .ref h0_5, .ref h0_6, .ref h0_7, .ref h0_8, .ref h0_9, .ref h0_10, .ref h0_11, .ref h0_12])), (h0_4, .inl (yh0_4, 60, .inl fh0_4)), (h0_7, .inl (yh0_7, 720, .inl fh0_7)), (h0_8, .inl (yh0_8, 60, .inl fh0_8)), (h0_9, .inl (yh0_9, 60, .inl fh0_9)), (a3, .inl (ya3, 60, .inl fa3))] t.heap ∧ va_K (dC, dI) vwCl [(yh0_4, .int), (yh0_7, .int), (yh0_8, .int), (yh0_9, .int), (ya3, .int)] t ∧ va_D (va_A [(h0, .inr (0, [.int h0_0, .int h0_1, .ref h0_2, .ref h0_3, .ref h0_4, .ref h0_5, .ref h0_6, .ref h0_7, .ref h0_8, .ref h0_9, .ref h0_10, .ref h0_11, .ref h0_12])), (h0_4, .inl (yh0_4, 60, .inl fh0_4)), (h0_7, .inl (yh0_7, 720, .inl fh0_7)), (h0_8, .inl (yh0_8, 60, .inl fh0_8)), (h0_9, .inl (yh0_9, 60, .inl fh0_9)), (a3, .inl (ya3, 60, .inl fa3))] sz) [(h0, .inr (0, [.int h0_0, .int h0_1, .ref h0_2, .ref h0_3, .ref h0_4, .ref h0_5, .ref h0_6, .ref h0_7, .ref h0_8, .ref h0_9, .ref h0_10, .ref h0_11, .ref h0_12])), (h0_4, .inl (yh0_4, 60, .inl fh0_4)), (h0_7, .inl (yh0_7, 720, .inl fh0_7)), (h0_8, .inl (yh0_8, 60, .inl fh0_8)), (h0_9, .inl (yh0_9, 60, .inl fh0_9)), (a3, .inl (ya3, 60, .inl fa3))]) (va_A [(h0, .inr (0, [.int h0_0, .int h0_1, .ref h0_2, .ref h0_3, .ref h0_4, .ref h0_5, .ref h0_6, .ref h0_7, .ref h0_8, .ref h0_9, .ref h0_10, .ref h0_11, .ref h0_12])), (h0_4, .inl (yh0_4, 60, .inl fh0_4)), (h0_7, .inl (yh0_7, 720, .inl fh0_7)), (h0_8, .inl (yh0_8, 60, .inl fh0_8)), (h0_9, .inl (yh0_9, 60, .inl fh0_9)), (a3, .inl (ya3, 60, .inl fa3))] sz)) 0 0 (va_A [(h0, .inr (0, [.int h0_0, .int h0_1, .ref h0_2, .ref h0_3, .ref h0_4, .ref h0_5, .ref h0_6, .ref h0_7, .ref h0_8, .ref h0_9, .ref h0_10, .ref h0_11, .ref h0_12])), (h0_4, .inl (yh0_4, 60, .inl fh0_4)), (h0_7, .inl (yh0_7, 720, .inl fh0_7)), (h0_8, .inl (yh0_8, 60, .inl fh0_8)), (h0_9, .inl (yh0_9, 60, .inl fh0_9)), (a3, .inl (ya3, 60, .inl fa3))] sz) := by
  refine Met.ofW (cc := cX2_busValue) (maxL := 7) (ret := (some .int)) (by decide +kernel) rfl ?_
  intro p e s m args below meth c s₁ B hml hv
  obtain ⟨rfl, hsz, hP, hK, hD0⟩ := hv
  have hx := B.exec
  have hb := B.bytes
  have hr := B.returns
  have hts := atoms_spec (ws := wsX2_busValue) B.pre
  have hown : s.vm.findClass RX2 = some m.cls := findClass_of_methodNamed B.named
  have hlocks := B.notSynchronized
  subst hsz
  have hD := hD0.self (sz := s.heap.size)
  generalize hAe : va_A [(h0, .inr (0, [.int h0_0, .int h0_1, .ref h0_2, .ref h0_3, .ref h0_4, .ref h0_5, .ref h0_6, .ref h0_7, .ref h0_8, .ref h0_9, .ref h0_10, .ref h0_11, .ref h0_12])), (h0_4, .inl (yh0_4, 60, .inl fh0_4)), (h0_7, .inl (yh0_7, 720, .inl fh0_7)), (h0_8, .inl (yh0_8, 60, .inl fh0_8)), (h0_9, .inl (yh0_9, 60, .inl fh0_9)), (a3, .inl (ya3, 60, .inl fa3))] s.heap.size = A at hD ⊢
  have hA : ∀ q : Nat, s.heap.size ≤ q → A q := fun q h => by rw [← hAe]; exact Or.inr h
  have hS : va_S A s.heap s.heap [] := va_S.rf
  have hP : va_P (dC, dI) vwCl [(h0, .inr (0, [.int h0_0, .int h0_1, .ref h0_2, .ref h0_3, .ref h0_4, .ref h0_5, .ref h0_6, .ref h0_7, .ref h0_8, .ref h0_9, .ref h0_10, .ref h0_11, .ref h0_12])), (h0_4, .inl (yh0_4, 60, .inl fh0_4)), (h0_7, .inl (yh0_7, 720, .inl fh0_7)), (h0_8, .inl (yh0_8, 60, .inl fh0_8)), (h0_9, .inl (yh0_9, 60, .inl fh0_9)), (a3, .inl (ya3, 60, .inl fa3))] s.heap := hP
  have hl := lv_entry ([.ref h0, .int p1, .ref a3]) (n := 7) (Nat.le_of_ble_eq_true rfl)
  rw [lg_entry_eq]
  generalize (lg_sl ([.ref h0, .int p1, .ref a3]) ++ List.replicate (7 - (lg_sl ([.ref h0, .int p1, .ref a3])).length) Slot.unset).toArray = ls at hl ⊢
  have hl : lv_has ls 7 [(0, .ref h0), (1, .int p1), (2, .ref a3)] := hl
  refine lv_iconst (v := 3) hx hb dX2_busValue_0 (by decide) ?_
  refine lv_istore_n (lv' := [(3, .int 3), (0, .ref h0), (1, .int p1), (2, .ref a3)]) hx hb dX2_busValue_1 rfl hl (by decide) rfl (fun ls hl => ?_)
  refine lv_aload_n hx hb dX2_busValue_2 rfl (lv_at hl 1 rfl) ?_
  refine lv_iload_n hx hb dX2_busValue_3 rfl (lv_at hl 2 rfl) ?_
  have hPc := hP.sub (ws' := [(h0, .inr (0, [.int h0_0, .int h0_1, .ref h0_2, .ref h0_3, .ref h0_4, .ref h0_5, .ref h0_6, .ref h0_7, .ref h0_8, .ref h0_9, .ref h0_10, .ref h0_11, .ref h0_12])), (h0_4, .inl (yh0_4, 60, .inl fh0_4)), (h0_8, .inl (yh0_8, 60, .inl fh0_8))]) [0, 1, 3] rfl
  have hDc := hD.sub (ws' := [(h0, .inr (0, [.int h0_0, .int h0_1, .ref h0_2, .ref h0_3, .ref h0_4, .ref h0_5, .ref h0_6, .ref h0_7, .ref h0_8, .ref h0_9, .ref h0_10, .ref h0_11, .ref h0_12])), (h0_4, .inl (yh0_4, 60, .inl fh0_4)), (h0_8, .inl (yh0_8, 60, .inl fh0_8))]) [0, 1, 3] (by decide) rfl
  have hKc := hK.sub (tys' := [(yh0_4, .int), (yh0_8, .int)]) [0, 2] rfl
  have hFc := va_free (wc := [(h0, .inr (0, [.int h0_0, .int h0_1, .ref h0_2, .ref h0_3, .ref h0_4, .ref h0_5, .ref h0_6, .ref h0_7, .ref h0_8, .ref h0_9, .ref h0_10, .ref h0_11, .ref h0_12])), (h0_4, .inl (yh0_4, 60, .inl fh0_4)), (h0_8, .inl (yh0_8, 60, .inl fh0_8))]) hD hS hA [0, 1, 3] rfl
  refine va_calli (va_runV (As := [.int p1]) (rest := []) ⟨hx, hb, hml, hown, hts⟩ (s_X0_size_bus l dC dI h0 h0_4 h0_8 h0_0 h0_1 h0_2 h0_3 h0_5 h0_6 h0_7 h0_9 h0_10 h0_11 h0_12 yh0_4 fh0_4 yh0_8 fh0_8 p1 kz s.heap.size ekz hy_kz hy_h0_0 hy_p1 hy_fh0_8) (cwV 1 hts gX2_busValue_X0_size rfl rfl rfl (by decide +kernel) ⟨Nat.le_of_ble_eq_true rfl, Nat.le_of_ble_eq_true rfl⟩) ⟨fun a U g mk q => by obtain ⟨q0, q1, qP, qK, qD⟩ := q; exact ⟨q0, q1, qP, va_K.moved (u := U) (U := U.calling g mk a) (Vm.Alike.refl U.vm) qK, qD⟩, va_recv hKc hPc (ci := 0) (q0 := 0) rfl rfl, fun U hU hW => ⟨rfl, by rw [hU], by rw [hU]; exact hPc, va_K.moved hW.alike hKc, hDc.weaken (fun _ _ _ _ => trivial)⟩⟩ rfl rfl hl.1 rfl (lv_room (Nat.le_of_ble_eq_true rfl)) dX2_busValue_4 ⟨Nat.le_of_ble_eq_true rfl, Nat.le_of_ble_eq_true rfl⟩) hS (fun q _ h => hFc q h) hFc (fun ry2 u t Hy1 locs ht hvm hw hB hz1 hk1 hS => ?_)
  obtain ⟨hP1, hK1, hD1⟩ := hB
  rw [ht] at hP1
  obtain ⟨hP, hD⟩ := va_join (wr := [(h0_7, .inl (yh0_7, 720, .inl fh0_7)), (h0_9, .inl (yh0_9, 60, .inl fh0_9)), (a3, .inl (ya3, 60, .inl fa3))]) (w1 := [(h0, .inr (0, [.int h0_0, .int h0_1, .ref h0_2, .ref h0_3, .ref h0_4, .ref h0_5, .ref h0_6, .ref h0_7, .ref h0_8, .ref h0_9, .ref h0_10, .ref h0_11, .ref h0_12])), (h0_4, .inl (yh0_4, 60, .inl fh0_4)), (h0_8, .inl (yh0_8, 60, .inl fh0_8))]) hP hD [0, 1, 3] [2, 4, 5] rfl rfl (by decide) (by decide) hk1 hFc hP1 hD1
  have hP := hP.sub (ws' := [(h0, .inr (0, [.int h0_0, .int h0_1, .ref h0_2, .ref h0_3, .ref h0_4, .ref h0_5, .ref h0_6, .ref h0_7, .ref h0_8, .ref h0_9, .ref h0_10, .ref h0_11, .ref h0_12])), (h0_4, .inl (yh0_4, 60, .inl fh0_4)), (h0_7, .inl (yh0_7, 720, .inl fh0_7)), (h0_8, .inl (yh0_8, 60, .inl fh0_8)), (h0_9, .inl (yh0_9, 60, .inl fh0_9)), (a3, .inl (ya3, 60, .inl fa3))]) [3, 4, 0, 5, 1, 2] rfl
  have hD := hD.sub (ws' := [(h0, .inr (0, [.int h0_0, .int h0_1, .ref h0_2, .ref h0_3, .ref h0_4, .ref h0_5, .ref h0_6, .ref h0_7, .ref h0_8, .ref h0_9, .ref h0_10, .ref h0_11, .ref h0_12])), (h0_4, .inl (yh0_4, 60, .inl fh0_4)), (h0_7, .inl (yh0_7, 720, .inl fh0_7)), (h0_8, .inl (yh0_8, 60, .inl fh0_8)), (h0_9, .inl (yh0_9, 60, .inl fh0_9)), (a3, .inl (ya3, 60, .inl fa3))]) [3, 4, 0, 5, 1, 2] (by decide) rfl
  have hP : va_P (dC, dI) vwCl [(h0, .inr (0, [.int h0_0, .int h0_1, .ref h0_2, .ref h0_3, .ref h0_4, .ref h0_5, .ref h0_6, .ref h0_7, .ref h0_8, .ref h0_9, .ref h0_10, .ref h0_11, .ref h0_12])), (h0_4, .inl (yh0_4, 60, .inl fh0_4)), (h0_7, .inl (yh0_7, 720, .inl fh0_7)), (h0_8, .inl (yh0_8, 60, .inl fh0_8)), (h0_9, .inl (yh0_9, 60, .inl fh0_9)), (a3, .inl (ya3, 60, .inl fa3))] Hy1 := hP
  have hD : va_D A [(h0, .inr (0, [.int h0_0, .int h0_1, .ref h0_2, .ref h0_3, .ref h0_4, .ref h0_5, .ref h0_6, .ref h0_7, .ref h0_8, .ref h0_9, .ref h0_10, .ref h0_11, .ref h0_12])), (h0_4, .inl (yh0_4, 60, .inl fh0_4)), (h0_7, .inl (yh0_7, 720, .inl fh0_7)), (h0_8, .inl (yh0_8, 60, .inl fh0_8)), (h0_9, .inl (yh0_9, 60, .inl fh0_9)), (a3, .inl (ya3, 60, .inl fa3))] := hD
  have by3 : IV 0 6 ry2 := hw
  refine lv_istore (lv' := [(4, .int ry2), (3, .int 3), (0, .ref h0), (1, .int p1), (2, .ref a3)]) hx hb dX2_busValue_7 hl (by decide) rfl (fun ls hl => ?_)
  refine lv_iconst (v := 0) hx hb dX2_busValue_9 (by decide) ?_
  refine lv_istore (lv' := [(5, .int 0), (4, .int ry2), (3, .int 3), (0, .ref h0), (1, .int p1), (2, .ref a3)]) hx hb dX2_busValue_10 hl (by decide) rfl (fun ls hl => ?_)
  refine W_abs (fun GWy10 eGy11 => ?_)
  have lpy12 : ∀ (n : Nat) (my8 : Int32) (my9 : Int32) (HGWy10 : Heap) (locs : List Loc) (ls : Array Slot), 7 - my8.toInt ≤ (n : Int) → IV 0 6 my8 → va_P (dC, dI) vwCl [(h0, .inr (0, [.int h0_0, .int h0_1, .ref h0_2, .ref h0_3, .ref h0_4, .ref h0_5, .ref h0_6, .ref h0_7, .ref h0_8, .ref h0_9, .ref h0_10, .ref h0_11, .ref h0_12])), (h0_4, .inl (yh0_4, 60, .inl fh0_4)), (h0_7, .inl (yh0_7, 720, .inl fh0_7)), (h0_8, .inl (yh0_8, 60, .inl fh0_8)), (h0_9, .inl (yh0_9, 60, .inl fh0_9)), (a3, .inl (ya3, 60, .inl fa3))] HGWy10 → va_D A [(h0, .inr (0, [.int h0_0, .int h0_1, .ref h0_2, .ref h0_3, .ref h0_4, .ref h0_5, .ref h0_6, .ref h0_7, .ref h0_8, .ref h0_9, .ref h0_10, .ref h0_11, .ref h0_12])), (h0_4, .inl (yh0_4, 60, .inl fh0_4)), (h0_7, .inl (yh0_7, 720, .inl fh0_7)), (h0_8, .inl (yh0_8, 60, .inl fh0_8)), (h0_9, .inl (yh0_9, 60, .inl fh0_9)), (a3, .inl (ya3, 60, .inl fa3))] → va_S A s.heap HGWy10 locs → lv_has ls 7 [(5, .int my8), (4, .int ry2), (3, .int my9), (0, .ref h0), (1, .int p1), (2, .ref a3)] → GWy10 HGWy10 locs 0 0 (F0 m 12 ls []) := by
    intro n
    induction n with
    | zero =>
      intro my8 my9 HGWy10 locs ls hmGWy10 hmy8 hP hD hS hl
      exact (IV_u0 hmy8 hmGWy10 (by decide)).elim
    | succ n ihGWy10 =>
      intro my8 my9 HGWy10 locs ls hmGWy10 hmy8 hP hD hS hl
      refine (eGy11 _ _ _ _ _).mpr ?_
      refine lv_iload hx hb dX2_busValue_12 (lv_at hl 0 rfl) ?_
      refine lv_iload hx hb dX2_busValue_14 (lv_at hl 1 rfl) ?_
      refine lv_icmp_ge (tgt := 60) hx hb dX2_busValue_16 (by decide) (fun cy13 => ?_) (fun cy13 => ?_)
      · have h_cy13 := cy13
        refine lv_iload_n hx hb dX2_busValue_60 rfl (lv_at hl 2 rfl) ?_
        exact W.iret (v := my9) hx hb hr (fun t ht hW => ⟨⟨my9, (), rfl, trivial, by rw [ht]; exact hP, va_K.moved hW.alike hK, hD⟩, hS.F ht⟩) hS.2.2 dX2_busValue_61
      · have h_cy13 := cy13
        have by14 : IV 1 6 ry2 := IV_nle_l cy13 by3 hmy8 (by decide) (by decide)
        have by15 : IV 0 5 my8 := IV_nle_r cy13 by3 hmy8 (by decide) (by decide)
        refine lv_aload_n hx hb dX2_busValue_19 rfl (lv_at hl 3 rfl) ?_
        refine lv_iload_n hx hb dX2_busValue_20 rfl (lv_at hl 4 rfl) ?_
        refine lv_iload hx hb dX2_busValue_21 (lv_at hl 0 rfl) ?_
        refine lv_aload_n hx hb dX2_busValue_23 rfl (lv_at hl 5 rfl) ?_
        have hPc := hP.sub (ws' := [(h0, .inr (0, [.int h0_0, .int h0_1, .ref h0_2, .ref h0_3, .ref h0_4, .ref h0_5, .ref h0_6, .ref h0_7, .ref h0_8, .ref h0_9, .ref h0_10, .ref h0_11, .ref h0_12])), (h0_7, .inl (yh0_7, 720, .inl fh0_7)), (h0_9, .inl (yh0_9, 60, .inl fh0_9)), (a3, .inl (ya3, 60, .inl fa3))]) [0, 2, 4, 5] rfl
        have hDc := hD.sub (ws' := [(h0, .inr (0, [.int h0_0, .int h0_1, .ref h0_2, .ref h0_3, .ref h0_4, .ref h0_5, .ref h0_6, .ref h0_7, .ref h0_8, .ref h0_9, .ref h0_10, .ref h0_11, .ref h0_12])), (h0_7, .inl (yh0_7, 720, .inl fh0_7)), (h0_9, .inl (yh0_9, 60, .inl fh0_9)), (a3, .inl (ya3, 60, .inl fa3))]) [0, 2, 4, 5] (by decide) rfl
        have hKc := hK.sub (tys' := [(yh0_7, .int), (yh0_9, .int), (ya3, .int)]) [1, 3, 4] rfl
        have hFc := va_free (wc := [(h0, .inr (0, [.int h0_0, .int h0_1, .ref h0_2, .ref h0_3, .ref h0_4, .ref h0_5, .ref h0_6, .ref h0_7, .ref h0_8, .ref h0_9, .ref h0_10, .ref h0_11, .ref h0_12])), (h0_7, .inl (yh0_7, 720, .inl fh0_7)), (h0_9, .inl (yh0_9, 60, .inl fh0_9)), (a3, .inl (ya3, 60, .inl fa3))]) hD hS hA [0, 2, 4, 5] rfl
        refine va_calli (va_runS (As := [.ref h0, .int p1, .int my8, .ref a3]) (rest := []) ⟨hx, hb, hml, hown, hts⟩ (s_X2_driverValue l dC dI h0 h0_7 h0_9 a3 h0_0 h0_1 h0_2 h0_3 h0_4 h0_5 h0_6 h0_8 h0_10 h0_11 h0_12 yh0_7 fh0_7 yh0_9 fh0_9 ya3 fa3 p1 my8 HGWy10.size hy_h0_0 hy_p1 by15 hy_fh0_7) (va_cwS 4 hts gX2_busValue_X2_driverValue rfl rfl rfl (by decide +kernel) ⟨Nat.le_of_ble_eq_true rfl, Nat.le_of_ble_eq_true rfl⟩) ⟨fun a U g mk q => by obtain ⟨q0, q1, qP, qK, qD⟩ := q; exact ⟨q0, q1, qP, va_K.moved (u := U) (U := U.calling g mk a) (Vm.Alike.refl U.vm) qK, qD⟩, fun U hU hW => ⟨rfl, by rw [hU], by rw [hU]; exact hPc, va_K.moved hW.alike hKc, hDc.weaken (fun _ _ _ _ => trivial)⟩⟩ rfl rfl hl.1 rfl (lv_room (Nat.le_of_ble_eq_true rfl)) dX2_busValue_24 ⟨Nat.le_of_ble_eq_true rfl, Nat.le_of_ble_eq_true rfl⟩) hS (fun q _ h => hFc q h) hFc (fun ry17 u t Hy16 locs ht hvm hw hB hz1 hk1 hS => ?_)
        obtain ⟨hP1, hK1, hD1⟩ := hB
        rw [ht] at hP1
        obtain ⟨hP, hD⟩ := va_join (wr := [(h0_4, .inl (yh0_4, 60, .inl fh0_4)), (h0_8, .inl (yh0_8, 60, .inl fh0_8))]) (w1 := [(h0, .inr (0, [.int h0_0, .int h0_1, .ref h0_2, .ref h0_3, .ref h0_4, .ref h0_5, .ref h0_6, .ref h0_7, .ref h0_8, .ref h0_9, .ref h0_10, .ref h0_11, .ref h0_12])), (h0_7, .inl (yh0_7, 720, .inl fh0_7)), (h0_9, .inl (yh0_9, 60, .inl fh0_9)), (a3, .inl (ya3, 60, .inl fa3))]) hP hD [0, 2, 4, 5] [1, 3] rfl rfl (by decide) (by decide) hk1 hFc hP1 hD1
        have hP := hP.sub (ws' := [(h0, .inr (0, [.int h0_0, .int h0_1, .ref h0_2, .ref h0_3, .ref h0_4, .ref h0_5, .ref h0_6, .ref h0_7, .ref h0_8, .ref h0_9, .ref h0_10, .ref h0_11, .ref h0_12])), (h0_4, .inl (yh0_4, 60, .inl fh0_4)), (h0_7, .inl (yh0_7, 720, .inl fh0_7)), (h0_8, .inl (yh0_8, 60, .inl fh0_8)), (h0_9, .inl (yh0_9, 60, .inl fh0_9)), (a3, .inl (ya3, 60, .inl fa3))]) [2, 0, 3, 1, 4, 5] rfl
        have hD := hD.sub (ws' := [(h0, .inr (0, [.int h0_0, .int h0_1, .ref h0_2, .ref h0_3, .ref h0_4, .ref h0_5, .ref h0_6, .ref h0_7, .ref h0_8, .ref h0_9, .ref h0_10, .ref h0_11, .ref h0_12])), (h0_4, .inl (yh0_4, 60, .inl fh0_4)), (h0_7, .inl (yh0_7, 720, .inl fh0_7)), (h0_8, .inl (yh0_8, 60, .inl fh0_8)), (h0_9, .inl (yh0_9, 60, .inl fh0_9)), (a3, .inl (ya3, 60, .inl fa3))]) [2, 0, 3, 1, 4, 5] (by decide) rfl
        have hP : va_P (dC, dI) vwCl [(h0, .inr (0, [.int h0_0, .int h0_1, .ref h0_2, .ref h0_3, .ref h0_4, .ref h0_5, .ref h0_6, .ref h0_7, .ref h0_8, .ref h0_9, .ref h0_10, .ref h0_11, .ref h0_12])), (h0_4, .inl (yh0_4, 60, .inl fh0_4)), (h0_7, .inl (yh0_7, 720, .inl fh0_7)), (h0_8, .inl (yh0_8, 60, .inl fh0_8)), (h0_9, .inl (yh0_9, 60, .inl fh0_9)), (a3, .inl (ya3, 60, .inl fa3))] Hy16 := hP
        have hD : va_D A [(h0, .inr (0, [.int h0_0, .int h0_1, .ref h0_2, .ref h0_3, .ref h0_4, .ref h0_5, .ref h0_6, .ref h0_7, .ref h0_8, .ref h0_9, .ref h0_10, .ref h0_11, .ref h0_12])), (h0_4, .inl (yh0_4, 60, .inl fh0_4)), (h0_7, .inl (yh0_7, 720, .inl fh0_7)), (h0_8, .inl (yh0_8, 60, .inl fh0_8)), (h0_9, .inl (yh0_9, 60, .inl fh0_9)), (a3, .inl (ya3, 60, .inl fa3))] := hD
        refine lv_istore (lv' := [(6, .int ry17), (5, .int my8), (4, .int ry2), (3, .int my9), (0, .ref h0), (1, .int p1), (2, .ref a3)]) hx hb dX2_busValue_27 hl (by decide) rfl (fun ls hl => ?_)
        refine lv_iload_n hx hb dX2_busValue_29 rfl (lv_at hl 3 rfl) ?_
        refine lv_iconst (v := 3) hx hb dX2_busValue_30 (by decide) ?_
        refine lv_icmp_ne (tgt := 40) hx hb dX2_busValue_31 (by decide) (fun cy18 => ?_) (fun cy18 => ?_)
        · have h_cy18 := cy18
          refine lv_iload hx hb dX2_busValue_40 (lv_at hl 0 rfl) ?_
          refine lv_iconst (v := 3) hx hb dX2_busValue_42 (by decide) ?_
          refine lv_icmp_eq (tgt := 54) hx hb dX2_busValue_43 (by decide) (fun cy19 => ?_) (fun cy19 => ?_)
          · have h_cy19 := cy19
            have by20 : IV 3 3 ry17 := IV_eq_l cy19 (IV_top ry17) (IV_mk (a := 3) (b := 3) (by decide) (by decide)) (by decide) (by decide)
            obtain ⟨zy21, ezy21⟩ : ∃ y : Int32, y = my8 + Int32.ofInt 1 := ⟨_, rfl⟩
            have by22 : IV 1 6 zy21 := IV_add (c := 1) (d := 1) ezy21 by15 (IV_mk (by decide) (by decide)) (by decide) (by decide) (by decide) (by decide)
            refine lv_iinc (v := zy21) (lv' := [(5, .int zy21), (6, .int ry17), (4, .int ry2), (3, .int my9), (0, .ref h0), (1, .int p1), (2, .ref a3)]) hx hb dX2_busValue_54 hl (k := 1) rfl ezy21.symm (by decide) rfl (fun ls hl => ?_)
            refine lv_goto (tgt := 12) hx hb dX2_busValue_57 (by decide) ?_
            exact (eGy11 _ _ _ _ _).mp (ihGWy10 zy21 my9 _ _ _ (IV_u1 hmGWy10 (IV_step (c := 1) ezy21 by15 (by decide) (by decide) (by decide)) (by decide)) (IV_wk by22 (by decide) (by decide)) hP hD hS (lv_sub hl [0, 2, 3, 4, 5, 6] rfl))
          · have h_cy19 := cy19
            refine lv_iload hx hb dX2_busValue_46 (lv_at hl 0 rfl) ?_
            refine lv_iload_n hx hb dX2_busValue_48 rfl (lv_at hl 3 rfl) ?_
            refine lv_icmp_eq (tgt := 54) hx hb dX2_busValue_49 (by decide) (fun cy23 => ?_) (fun cy23 => ?_)
            · have h_cy23 := cy23
              obtain ⟨zy24, ezy24⟩ : ∃ y : Int32, y = my8 + Int32.ofInt 1 := ⟨_, rfl⟩
              have by25 : IV 1 6 zy24 := IV_add (c := 1) (d := 1) ezy24 by15 (IV_mk (by decide) (by decide)) (by decide) (by decide) (by decide) (by decide)
              refine lv_iinc (v := zy24) (lv' := [(5, .int zy24), (6, .int ry17), (4, .int ry2), (3, .int my9), (0, .ref h0), (1, .int p1), (2, .ref a3)]) hx hb dX2_busValue_54 hl (k := 1) rfl ezy24.symm (by decide) rfl (fun ls hl => ?_)
              refine lv_goto (tgt := 12) hx hb dX2_busValue_57 (by decide) ?_
              exact (eGy11 _ _ _ _ _).mp (ihGWy10 zy24 my9 _ _ _ (IV_u1 hmGWy10 (IV_step (c := 1) ezy24 by15 (by decide) (by decide) (by decide)) (by decide)) (IV_wk by25 (by decide) (by decide)) hP hD hS (lv_sub hl [0, 2, 3, 4, 5, 6] rfl))
            · have h_cy23 := cy23
              refine lv_iconst (v := 2) hx hb dX2_busValue_52 (by decide) ?_
              refine lv_istore_n (lv' := [(3, .int 2), (6, .int ry17), (5, .int my8), (4, .int ry2), (0, .ref h0), (1, .int p1), (2, .ref a3)]) hx hb dX2_busValue_53 rfl hl (by decide) rfl (fun ls hl => ?_)
              obtain ⟨zy26, ezy26⟩ : ∃ y : Int32, y = my8 + Int32.ofInt 1 := ⟨_, rfl⟩
              have by27 : IV 1 6 zy26 := IV_add (c := 1) (d := 1) ezy26 by15 (IV_mk (by decide) (by decide)) (by decide) (by decide) (by decide) (by decide)
              refine lv_iinc (v := zy26) (lv' := [(5, .int zy26), (3, .int 2), (6, .int ry17), (4, .int ry2), (0, .ref h0), (1, .int p1), (2, .ref a3)]) hx hb dX2_busValue_54 hl (k := 2) rfl ezy26.symm (by decide) rfl (fun ls hl => ?_)
              refine lv_goto (tgt := 12) hx hb dX2_busValue_57 (by decide) ?_
              exact (eGy11 _ _ _ _ _).mp (ihGWy10 zy26 2 _ _ _ (IV_u1 hmGWy10 (IV_step (c := 1) ezy26 by15 (by decide) (by decide) (by decide)) (by decide)) (IV_wk by27 (by decide) (by decide)) hP hD hS (lv_sub hl [0, 3, 1, 4, 5, 6] rfl))
        · have h_cy18 := cy18
          have by28 : IV 3 3 my9 := IV_eq_l cy18 (IV_top my9) (IV_mk (a := 3) (b := 3) (by decide) (by decide)) (by decide) (by decide)
          refine lv_iload hx hb dX2_busValue_34 (lv_at hl 0 rfl) ?_
          refine lv_istore_n (lv' := [(3, .int ry17), (6, .int ry17), (5, .int my8), (4, .int ry2), (0, .ref h0), (1, .int p1), (2, .ref a3)]) hx hb dX2_busValue_36 rfl hl (by decide) rfl (fun ls hl => ?_)
          refine lv_goto (tgt := 54) hx hb dX2_busValue_37 (by decide) ?_
          obtain ⟨zy29, ezy29⟩ : ∃ y : Int32, y = my8 + Int32.ofInt 1 := ⟨_, rfl⟩
          have by30 : IV 1 6 zy29 := IV_add (c := 1) (d := 1) ezy29 by15 (IV_mk (by decide) (by decide)) (by decide) (by decide) (by decide) (by decide)
          refine lv_iinc (v := zy29) (lv' := [(5, .int zy29), (3, .int ry17), (6, .int ry17), (4, .int ry2), (0, .ref h0), (1, .int p1), (2, .ref a3)]) hx hb dX2_busValue_54 hl (k := 2) rfl ezy29.symm (by decide) rfl (fun ls hl => ?_)
          refine lv_goto (tgt := 12) hx hb dX2_busValue_57 (by decide) ?_
          exact (eGy11 _ _ _ _ _).mp (ihGWy10 zy29 ry17 _ _ _ (IV_u1 hmGWy10 (IV_step (c := 1) ezy29 by15 (by decide) (by decide) (by decide)) (by decide)) (IV_wk by30 (by decide) (by decide)) hP hD hS (lv_sub hl [0, 3, 1, 4, 5, 6] rfl))
  exact lpy12 7 0 3 _ _ _ (IV_ui (IV_mk (a := 0) (b := 0) (by decide) (by decide)) (by decide)) (IV_mk (by decide) (by decide)) hP hD hS (lv_sub hl [0, 1, 2, 3, 4, 5] rfl)

set_option maxHeartbeats 4000000 in
set_option maxRecDepth 100000 in
theorem s_X2_afterTick (l : Launch) (dC : Nat → ClassId) (dI : Nat → Nat → Nat) (h0 : Nat) (h0_4 : Nat) (h0_7 : Nat) (h0_8 : Nat) (a3 : Nat) (h0_0 : Int32) (h0_1 : Int32) (h0_2 : Nat) (h0_3 : Nat) (h0_5 : Nat) (h0_6 : Nat) (h0_9 : Nat) (h0_10 : Nat) (h0_11 : Nat) (h0_12 : Nat) (yh0_4 : ClassId) (fh0_4 : Nat → Int32) (yh0_7 : ClassId) (fh0_7 : Nat → Int32) (yh0_8 : ClassId) (fh0_8 : Nat → Int32) (ya3 : ClassId) (fa3 : Nat → Int32) (p1 : Int32) (sz : Nat) (hy_h0_0 : IV 0 60 h0_0) (hy_p1 : IV 0 59 p1) (hy_fh0_7 : AR 0 59 fh0_7) (hy_fh0_8 : AR 0 12 fh0_8) : Met l yX2_afterTick wsX2_afterTick ({ frames := 1, cells := 0, slots := 0, locals := 22 }) (va_Pc [.ref h0, .int p1, .ref a3] (fun U => U.heap.size = sz ∧ va_P (dC, dI) vwCl [(h0, .inr (0, [.int h0_0, .int h0_1, .ref h0_2, .ref h0_3, .ref h0_4, .ref h0_5, .ref h0_6, .ref h0_7, .ref h0_8, .ref h0_9, .ref h0_10, .ref h0_11, .ref h0_12])), (h0_4, .inl (yh0_4, 60, .inl fh0_4)), (h0_7, .inl (yh0_7, 720, .inl fh0_7)), (h0_8, .inl (yh0_8, 60, .inl fh0_8)), (a3, .inl (ya3, 60, .inl fa3))] U.heap ∧ va_K (dC, dI) vwCl [(yh0_4, .int), (yh0_7, .int), (yh0_8, .int), (ya3, .int)] U ∧ va_D (fun _ => True) [(h0, .inr (0, [.int h0_0, .int h0_1, .ref h0_2, .ref h0_3, .ref h0_4, .ref h0_5, .ref h0_6, .ref h0_7, .ref h0_8, .ref h0_9, .ref h0_10, .ref h0_11, .ref h0_12])), (h0_4, .inl (yh0_4, 60, .inl fh0_4)), (h0_7, .inl (yh0_7, 720, .inl fh0_7)), (h0_8, .inl (yh0_8, 60, .inl fh0_8)), (a3, .inl (ya3, 60, .inl fa3))])) (va_Qi (fun (r : Int32) (_ : Unit) => True) (fun (_ : Unit) (t : State) => va_P (dC, dI) vwCl [(h0, .inr (0, [.int h0_0, .int h0_1, .ref h0_2, .ref h0_3, .ref h0_4, .ref h0_5, .ref h0_6, .ref h0_7, .ref h0_8, .ref h0_9, .ref h0_10, .ref h0_11, .ref h0_12])), (h0_4, .inl (yh0_4, 60, .inl fh0_4)), (h0_7, .inl (yh0_7, 720, .inl fh0_7)), (h0_8, .inl (yh0_8, 60, .inl fh0_8)), (a3, .inl (ya3, 60, .inl fa3))] t.heap ∧ va_K (dC, dI) vwCl [(yh0_4, .int), (yh0_7, .int), (yh0_8, .int), (ya3, .int)] t ∧ va_D (va_A [(h0, .inr (0, [.int h0_0, .int h0_1, .ref h0_2, .ref h0_3, .ref h0_4, .ref h0_5, .ref h0_6, .ref h0_7, .ref h0_8, .ref h0_9, .ref h0_10, .ref h0_11, .ref h0_12])), (h0_4, .inl (yh0_4, 60, .inl fh0_4)), (h0_7, .inl (yh0_7, 720, .inl fh0_7)), (h0_8, .inl (yh0_8, 60, .inl fh0_8)), (a3, .inl (ya3, 60, .inl fa3))] sz) [(h0, .inr (0, [.int h0_0, .int h0_1, .ref h0_2, .ref h0_3, .ref h0_4, .ref h0_5, .ref h0_6, .ref h0_7, .ref h0_8, .ref h0_9, .ref h0_10, .ref h0_11, .ref h0_12])), (h0_4, .inl (yh0_4, 60, .inl fh0_4)), (h0_7, .inl (yh0_7, 720, .inl fh0_7)), (h0_8, .inl (yh0_8, 60, .inl fh0_8)), (a3, .inl (ya3, 60, .inl fa3))]) (va_A [(h0, .inr (0, [.int h0_0, .int h0_1, .ref h0_2, .ref h0_3, .ref h0_4, .ref h0_5, .ref h0_6, .ref h0_7, .ref h0_8, .ref h0_9, .ref h0_10, .ref h0_11, .ref h0_12])), (h0_4, .inl (yh0_4, 60, .inl fh0_4)), (h0_7, .inl (yh0_7, 720, .inl fh0_7)), (h0_8, .inl (yh0_8, 60, .inl fh0_8)), (a3, .inl (ya3, 60, .inl fa3))] sz)) 0 0 (va_A [(h0, .inr (0, [.int h0_0, .int h0_1, .ref h0_2, .ref h0_3, .ref h0_4, .ref h0_5, .ref h0_6, .ref h0_7, .ref h0_8, .ref h0_9, .ref h0_10, .ref h0_11, .ref h0_12])), (h0_4, .inl (yh0_4, 60, .inl fh0_4)), (h0_7, .inl (yh0_7, 720, .inl fh0_7)), (h0_8, .inl (yh0_8, 60, .inl fh0_8)), (a3, .inl (ya3, 60, .inl fa3))] sz) := by
  refine Met.ofW (cc := cX2_afterTick) (maxL := 6) (ret := (some .int)) (by decide +kernel) rfl ?_
  intro p e s m args below meth c s₁ B hml hv
  obtain ⟨rfl, hsz, hP, hK, hD0⟩ := hv
  have hx := B.exec
  have hb := B.bytes
  have hr := B.returns
  have hts := atoms_spec (ws := wsX2_afterTick) B.pre
  have hown : s.vm.findClass RX2 = some m.cls := findClass_of_methodNamed B.named
  have hlocks := B.notSynchronized
  subst hsz
  have hD := hD0.self (sz := s.heap.size)
  generalize hAe : va_A [(h0, .inr (0, [.int h0_0, .int h0_1, .ref h0_2, .ref h0_3, .ref h0_4, .ref h0_5, .ref h0_6, .ref h0_7, .ref h0_8, .ref h0_9, .ref h0_10, .ref h0_11, .ref h0_12])), (h0_4, .inl (yh0_4, 60, .inl fh0_4)), (h0_7, .inl (yh0_7, 720, .inl fh0_7)), (h0_8, .inl (yh0_8, 60, .inl fh0_8)), (a3, .inl (ya3, 60, .inl fa3))] s.heap.size = A at hD ⊢
  have hA : ∀ q : Nat, s.heap.size ≤ q → A q := fun q h => by rw [← hAe]; exact Or.inr h
  have hS : va_S A s.heap s.heap [] := va_S.rf
  have hP : va_P (dC, dI) vwCl [(h0, .inr (0, [.int h0_0, .int h0_1, .ref h0_2, .ref h0_3, .ref h0_4, .ref h0_5, .ref h0_6, .ref h0_7, .ref h0_8, .ref h0_9, .ref h0_10, .ref h0_11, .ref h0_12])), (h0_4, .inl (yh0_4, 60, .inl fh0_4)), (h0_7, .inl (yh0_7, 720, .inl fh0_7)), (h0_8, .inl (yh0_8, 60, .inl fh0_8)), (a3, .inl (ya3, 60, .inl fa3))] s.heap := hP
  have hl := lv_entry ([.ref h0, .int p1, .ref a3]) (n := 6) (Nat.le_of_ble_eq_true rfl)
  rw [lg_entry_eq]
  generalize (lg_sl ([.ref h0, .int p1, .ref a3]) ++ List.replicate (6 - (lg_sl ([.ref h0, .int p1, .ref a3])).length) Slot.unset).toArray = ls at hl ⊢
  have hl : lv_has ls 6 [(0, .ref h0), (1, .int p1), (2, .ref a3)] := hl
  refine lv_aload_n hx hb dX2_afterTick_0 rfl (lv_at hl 2 rfl) ?_
  refine lv_iload_n hx hb dX2_afterTick_1 rfl (lv_at hl 1 rfl) ?_
  refine va_iald hx hb hK hP 4 3 rfl rfl (IV_in hy_p1 (by decide) (by decide)) dX2_afterTick_2 ?_
  refine lv_topi (fun zy1 ezy1 => ?_)
  refine lv_istore_n (lv' := [(3, .int zy1), (0, .ref h0), (1, .int p1), (2, .ref a3)]) hx hb dX2_afterTick_3 rfl hl (by decide) rfl (fun ls hl => ?_)
  refine lv_aload_n hx hb dX2_afterTick_4 rfl (lv_at hl 3 rfl) ?_
  refine lv_aload_n hx hb dX2_afterTick_5 rfl (lv_at hl 1 rfl) ?_
  refine lv_iload_n hx hb dX2_afterTick_6 rfl (lv_at hl 2 rfl) ?_
  refine lv_iconst (v := 0) hx hb dX2_afterTick_7 (by decide) ?_
  have hPc := hP.sub (ws' := [(h0, .inr (0, [.int h0_0, .int h0_1, .ref h0_2, .ref h0_3, .ref h0_4, .ref h0_5, .ref h0_6, .ref h0_7, .ref h0_8, .ref h0_9, .ref h0_10, .ref h0_11, .ref h0_12])), (h0_7, .inl (yh0_7, 720, .inl fh0_7))]) [0, 2] rfl
  have hDc := hD.sub (ws' := [(h0, .inr (0, [.int h0_0, .int h0_1, .ref h0_2, .ref h0_3, .ref h0_4, .ref h0_5, .ref h0_6, .ref h0_7, .ref h0_8, .ref h0_9, .ref h0_10, .ref h0_11, .ref h0_12])), (h0_7, .inl (yh0_7, 720, .inl fh0_7))]) [0, 2] (by decide) rfl
  have hKc := hK.sub (tys' := [(yh0_7, .int)]) [1] rfl
  have hFc := va_free (wc := [(h0, .inr (0, [.int h0_0, .int h0_1, .ref h0_2, .ref h0_3, .ref h0_4, .ref h0_5, .ref h0_6, .ref h0_7, .ref h0_8, .ref h0_9, .ref h0_10, .ref h0_11, .ref h0_12])), (h0_7, .inl (yh0_7, 720, .inl fh0_7))]) hD hS hA [0, 2] rfl
  refine va_calli (va_runV (As := [.int p1, .int 0]) (rest := [.ref a3]) ⟨hx, hb, hml, hown, hts⟩ (s_X0_part l dC dI h0 h0_7 h0_0 h0_1 h0_2 h0_3 h0_4 h0_5 h0_6 h0_8 h0_9 h0_10 h0_11 h0_12 yh0_7 fh0_7 p1 0 s.heap.size hy_h0_0 hy_p1 (IV_mk (by decide) (by decide)) hy_fh0_7) (cwV 2 hts gX2_afterTick_X0_part rfl rfl rfl (by decide +kernel) ⟨Nat.le_of_ble_eq_true rfl, Nat.le_of_ble_eq_true rfl⟩) ⟨fun a U g mk q => by obtain ⟨q0, q1, qP, qK, qD⟩ := q; exact ⟨q0, q1, qP, va_K.moved (u := U) (U := U.calling g mk a) (Vm.Alike.refl U.vm) qK, qD⟩, va_recv hKc hPc (ci := 0) (q0 := 0) rfl rfl, fun U hU hW => ⟨rfl, by rw [hU], by rw [hU]; exact hPc, va_K.moved hW.alike hKc, hDc.weaken (fun _ _ _ _ => trivial)⟩⟩ rfl rfl hl.1 rfl (lv_room (Nat.le_of_ble_eq_true rfl)) dX2_afterTick_8 ⟨Nat.le_of_ble_eq_true rfl, Nat.le_of_ble_eq_true rfl⟩) hS (fun q _ h => hFc q h) hFc (fun ry3 u t Hy2 locs ht hvm hw hB hz1 hk1 hS => ?_)
  obtain ⟨hP1, hK1, hD1⟩ := hB
  rw [ht] at hP1
  obtain ⟨hP, hD⟩ := va_join (wr := [(h0_4, .inl (yh0_4, 60, .inl fh0_4)), (h0_8, .inl (yh0_8, 60, .inl fh0_8)), (a3, .inl (ya3, 60, .inl fa3))]) (w1 := [(h0, .inr (0, [.int h0_0, .int h0_1, .ref h0_2, .ref h0_3, .ref h0_4, .ref h0_5, .ref h0_6, .ref h0_7, .ref h0_8, .ref h0_9, .ref h0_10, .ref h0_11, .ref h0_12])), (h0_7, .inl (yh0_7, 720, .inl fh0_7))]) hP hD [0, 2] [1, 3, 4] rfl rfl (by decide) (by decide) hk1 hFc hP1 hD1
  have hP := hP.sub (ws' := [(h0, .inr (0, [.int h0_0, .int h0_1, .ref h0_2, .ref h0_3, .ref h0_4, .ref h0_5, .ref h0_6, .ref h0_7, .ref h0_8, .ref h0_9, .ref h0_10, .ref h0_11, .ref h0_12])), (h0_4, .inl (yh0_4, 60, .inl fh0_4)), (h0_7, .inl (yh0_7, 720, .inl fh0_7)), (h0_8, .inl (yh0_8, 60, .inl fh0_8)), (a3, .inl (ya3, 60, .inl fa3))]) [3, 0, 4, 1, 2] rfl
  have hD := hD.sub (ws' := [(h0, .inr (0, [.int h0_0, .int h0_1, .ref h0_2, .ref h0_3, .ref h0_4, .ref h0_5, .ref h0_6, .ref h0_7, .ref h0_8, .ref h0_9, .ref h0_10, .ref h0_11, .ref h0_12])), (h0_4, .inl (yh0_4, 60, .inl fh0_4)), (h0_7, .inl (yh0_7, 720, .inl fh0_7)), (h0_8, .inl (yh0_8, 60, .inl fh0_8)), (a3, .inl (ya3, 60, .inl fa3))]) [3, 0, 4, 1, 2] (by decide) rfl
  have hP : va_P (dC, dI) vwCl [(h0, .inr (0, [.int h0_0, .int h0_1, .ref h0_2, .ref h0_3, .ref h0_4, .ref h0_5, .ref h0_6, .ref h0_7, .ref h0_8, .ref h0_9, .ref h0_10, .ref h0_11, .ref h0_12])), (h0_4, .inl (yh0_4, 60, .inl fh0_4)), (h0_7, .inl (yh0_7, 720, .inl fh0_7)), (h0_8, .inl (yh0_8, 60, .inl fh0_8)), (a3, .inl (ya3, 60, .inl fa3))] Hy2 := hP
  have hD : va_D A [(h0, .inr (0, [.int h0_0, .int h0_1, .ref h0_2, .ref h0_3, .ref h0_4, .ref h0_5, .ref h0_6, .ref h0_7, .ref h0_8, .ref h0_9, .ref h0_10, .ref h0_11, .ref h0_12])), (h0_4, .inl (yh0_4, 60, .inl fh0_4)), (h0_7, .inl (yh0_7, 720, .inl fh0_7)), (h0_8, .inl (yh0_8, 60, .inl fh0_8)), (a3, .inl (ya3, 60, .inl fa3))] := hD
  have by4 : IV 0 59 ry3 := hw
  refine va_iald hx hb hK hP 4 3 rfl rfl (IV_in by4 (by decide) (by decide)) dX2_afterTick_11 ?_
  refine lv_topi (fun zy5 ezy5 => ?_)
  have hPc := hP.sub (ws' := []) [] rfl
  have hDc := hD.sub (ws' := []) [] (by decide) rfl
  have hKc := hK.sub (tys' := []) [] rfl
  have hFc := va_free (wc := []) hD hS hA [] rfl
  refine va_calli (va_runS (As := [.int zy5]) (rest := []) ⟨hx, hb, hml, hown, hts⟩ (s_X2_takenIn l dC dI zy5 Hy2.size) (va_cwS 1 hts gX2_afterTick_X2_takenIn rfl rfl rfl (by decide +kernel) ⟨Nat.le_of_ble_eq_true rfl, Nat.le_of_ble_eq_true rfl⟩) ⟨fun a U g mk q => by obtain ⟨q0, q1, qP, qK, qD⟩ := q; exact ⟨q0, q1, qP, va_K.moved (u := U) (U := U.calling g mk a) (Vm.Alike.refl U.vm) qK, qD⟩, fun U hU hW => ⟨rfl, by rw [hU], by rw [hU]; exact hPc, va_K.moved hW.alike hKc, hDc.weaken (fun _ _ _ _ => trivial)⟩⟩ rfl rfl hl.1 rfl (lv_room (Nat.le_of_ble_eq_true rfl)) dX2_afterTick_12 ⟨Nat.le_of_ble_eq_true rfl, Nat.le_of_ble_eq_true rfl⟩) hS (fun q _ h => hFc q h) hFc (fun ry7 u t Hy6 locs ht hvm hw hB hz1 hk1 hS => ?_)
  obtain ⟨hP1, hK1, hD1⟩ := hB
  rw [ht] at hP1
  obtain ⟨hP, hD⟩ := va_join (wr := [(h0, .inr (0, [.int h0_0, .int h0_1, .ref h0_2, .ref h0_3, .ref h0_4, .ref h0_5, .ref h0_6, .ref h0_7, .ref h0_8, .ref h0_9, .ref h0_10, .ref h0_11, .ref h0_12])), (h0_4, .inl (yh0_4, 60, .inl fh0_4)), (h0_7, .inl (yh0_7, 720, .inl fh0_7)), (h0_8, .inl (yh0_8, 60, .inl fh0_8)), (a3, .inl (ya3, 60, .inl fa3))]) (w1 := []) hP hD [] [0, 1, 2, 3, 4] rfl rfl (by decide) (by decide) hk1 hFc hP1 hD1
  have hP : va_P (dC, dI) vwCl [(h0, .inr (0, [.int h0_0, .int h0_1, .ref h0_2, .ref h0_3, .ref h0_4, .ref h0_5, .ref h0_6, .ref h0_7, .ref h0_8, .ref h0_9, .ref h0_10, .ref h0_11, .ref h0_12])), (h0_4, .inl (yh0_4, 60, .inl fh0_4)), (h0_7, .inl (yh0_7, 720, .inl fh0_7)), (h0_8, .inl (yh0_8, 60, .inl fh0_8)), (a3, .inl (ya3, 60, .inl fa3))] Hy6 := hP
  have hD : va_D A [(h0, .inr (0, [.int h0_0, .int h0_1, .ref h0_2, .ref h0_3, .ref h0_4, .ref h0_5, .ref h0_6, .ref h0_7, .ref h0_8, .ref h0_9, .ref h0_10, .ref h0_11, .ref h0_12])), (h0_4, .inl (yh0_4, 60, .inl fh0_4)), (h0_7, .inl (yh0_7, 720, .inl fh0_7)), (h0_8, .inl (yh0_8, 60, .inl fh0_8)), (a3, .inl (ya3, 60, .inl fa3))] := hD
  refine lv_istore (lv' := [(4, .int ry7), (3, .int zy1), (0, .ref h0), (1, .int p1), (2, .ref a3)]) hx hb dX2_afterTick_15 hl (by decide) rfl (fun ls hl => ?_)
  refine lv_aload_n hx hb dX2_afterTick_17 rfl (lv_at hl 2 rfl) ?_
  refine lv_iload_n hx hb dX2_afterTick_18 rfl (lv_at hl 3 rfl) ?_
  have hPc := hP.sub (ws' := [(h0, .inr (0, [.int h0_0, .int h0_1, .ref h0_2, .ref h0_3, .ref h0_4, .ref h0_5, .ref h0_6, .ref h0_7, .ref h0_8, .ref h0_9, .ref h0_10, .ref h0_11, .ref h0_12])), (h0_4, .inl (yh0_4, 60, .inl fh0_4)), (h0_8, .inl (yh0_8, 60, .inl fh0_8))]) [0, 1, 3] rfl
  have hDc := hD.sub (ws' := [(h0, .inr (0, [.int h0_0, .int h0_1, .ref h0_2, .ref h0_3, .ref h0_4, .ref h0_5, .ref h0_6, .ref h0_7, .ref h0_8, .ref h0_9, .ref h0_10, .ref h0_11, .ref h0_12])), (h0_4, .inl (yh0_4, 60, .inl fh0_4)), (h0_8, .inl (yh0_8, 60, .inl fh0_8))]) [0, 1, 3] (by decide) rfl
  have hKc := hK.sub (tys' := [(yh0_4, .int), (yh0_8, .int)]) [0, 2] rfl
  have hFc := va_free (wc := [(h0, .inr (0, [.int h0_0, .int h0_1, .ref h0_2, .ref h0_3, .ref h0_4, .ref h0_5, .ref h0_6, .ref h0_7, .ref h0_8, .ref h0_9, .ref h0_10, .ref h0_11, .ref h0_12])), (h0_4, .inl (yh0_4, 60, .inl fh0_4)), (h0_8, .inl (yh0_8, 60, .inl fh0_8))]) hD hS hA [0, 1, 3] rfl
  refine va_calli (va_runV (As := [.int p1]) (rest := []) ⟨hx, hb, hml, hown, hts⟩ (s_X0_size l dC dI h0 h0_4 h0_8 h0_0 h0_1 h0_2 h0_3 h0_5 h0_6 h0_7 h0_9 h0_10 h0_11 h0_12 yh0_4 fh0_4 yh0_8 fh0_8 p1 Hy6.size hy_h0_0 hy_p1 hy_fh0_8) (cwV 1 hts gX2_afterTick_X0_size rfl rfl rfl (by decide +kernel) ⟨Nat.le_of_ble_eq_true rfl, Nat.le_of_ble_eq_true rfl⟩) ⟨fun a U g mk q => by obtain ⟨q0, q1, qP, qK, qD⟩ := q; exact ⟨q0, q1, qP, va_K.moved (u := U) (U := U.calling g mk a) (Vm.Alike.refl U.vm) qK, qD⟩, va_recv hKc hPc (ci := 0) (q0 := 0) rfl rfl, fun U hU hW => ⟨rfl, by rw [hU], by rw [hU]; exact hPc, va_K.moved hW.alike hKc, hDc.weaken (fun _ _ _ _ => trivial)⟩⟩ rfl rfl hl.1 rfl (lv_room (Nat.le_of_ble_eq_true rfl)) dX2_afterTick_19 ⟨Nat.le_of_ble_eq_true rfl, Nat.le_of_ble_eq_true rfl⟩) hS (fun q _ h => hFc q h) hFc (fun ry9 u t Hy8 locs ht hvm hw hB hz1 hk1 hS => ?_)
  obtain ⟨hP1, hK1, hD1⟩ := hB
  rw [ht] at hP1
  obtain ⟨hP, hD⟩ := va_join (wr := [(h0_7, .inl (yh0_7, 720, .inl fh0_7)), (a3, .inl (ya3, 60, .inl fa3))]) (w1 := [(h0, .inr (0, [.int h0_0, .int h0_1, .ref h0_2, .ref h0_3, .ref h0_4, .ref h0_5, .ref h0_6, .ref h0_7, .ref h0_8, .ref h0_9, .ref h0_10, .ref h0_11, .ref h0_12])), (h0_4, .inl (yh0_4, 60, .inl fh0_4)), (h0_8, .inl (yh0_8, 60, .inl fh0_8))]) hP hD [0, 1, 3] [2, 4] rfl rfl (by decide) (by decide) hk1 hFc hP1 hD1
  have hP := hP.sub (ws' := [(h0, .inr (0, [.int h0_0, .int h0_1, .ref h0_2, .ref h0_3, .ref h0_4, .ref h0_5, .ref h0_6, .ref h0_7, .ref h0_8, .ref h0_9, .ref h0_10, .ref h0_11, .ref h0_12])), (h0_4, .inl (yh0_4, 60, .inl fh0_4)), (h0_7, .inl (yh0_7, 720, .inl fh0_7)), (h0_8, .inl (yh0_8, 60, .inl fh0_8)), (a3, .inl (ya3, 60, .inl fa3))]) [2, 3, 0, 4, 1] rfl
  have hD := hD.sub (ws' := [(h0, .inr (0, [.int h0_0, .int h0_1, .ref h0_2, .ref h0_3, .ref h0_4, .ref h0_5, .ref h0_6, .ref h0_7, .ref h0_8, .ref h0_9, .ref h0_10, .ref h0_11, .ref h0_12])), (h0_4, .inl (yh0_4, 60, .inl fh0_4)), (h0_7, .inl (yh0_7, 720, .inl fh0_7)), (h0_8, .inl (yh0_8, 60, .inl fh0_8)), (a3, .inl (ya3, 60, .inl fa3))]) [2, 3, 0, 4, 1] (by decide) rfl
  have hP : va_P (dC, dI) vwCl [(h0, .inr (0, [.int h0_0, .int h0_1, .ref h0_2, .ref h0_3, .ref h0_4, .ref h0_5, .ref h0_6, .ref h0_7, .ref h0_8, .ref h0_9, .ref h0_10, .ref h0_11, .ref h0_12])), (h0_4, .inl (yh0_4, 60, .inl fh0_4)), (h0_7, .inl (yh0_7, 720, .inl fh0_7)), (h0_8, .inl (yh0_8, 60, .inl fh0_8)), (a3, .inl (ya3, 60, .inl fa3))] Hy8 := hP
  have hD : va_D A [(h0, .inr (0, [.int h0_0, .int h0_1, .ref h0_2, .ref h0_3, .ref h0_4, .ref h0_5, .ref h0_6, .ref h0_7, .ref h0_8, .ref h0_9, .ref h0_10, .ref h0_11, .ref h0_12])), (h0_4, .inl (yh0_4, 60, .inl fh0_4)), (h0_7, .inl (yh0_7, 720, .inl fh0_7)), (h0_8, .inl (yh0_8, 60, .inl fh0_8)), (a3, .inl (ya3, 60, .inl fa3))] := hD
  have by10 : IV 0 12 ry9 := hw
  refine lv_iconst (v := 1) hx hb dX2_afterTick_22 (by decide) ?_
  refine W_abs (fun GWy13 eGy14 => ?_)
  have jny15 : ∀ (my12 : Int32) (HGWy13 : Heap) (locs : List Loc) (ls : Array Slot), va_P (dC, dI) vwCl [(h0, .inr (0, [.int h0_0, .int h0_1, .ref h0_2, .ref h0_3, .ref h0_4, .ref h0_5, .ref h0_6, .ref h0_7, .ref h0_8, .ref h0_9, .ref h0_10, .ref h0_11, .ref h0_12])), (h0_4, .inl (yh0_4, 60, .inl fh0_4)), (h0_7, .inl (yh0_7, 720, .inl fh0_7)), (h0_8, .inl (yh0_8, 60, .inl fh0_8)), (a3, .inl (ya3, 60, .inl fa3))] HGWy13 → va_D A [(h0, .inr (0, [.int h0_0, .int h0_1, .ref h0_2, .ref h0_3, .ref h0_4, .ref h0_5, .ref h0_6, .ref h0_7, .ref h0_8, .ref h0_9, .ref h0_10, .ref h0_11, .ref h0_12])), (h0_4, .inl (yh0_4, 60, .inl fh0_4)), (h0_7, .inl (yh0_7, 720, .inl fh0_7)), (h0_8, .inl (yh0_8, 60, .inl fh0_8)), (a3, .inl (ya3, 60, .inl fa3))] → va_S A s.heap HGWy13 locs → lv_has ls 6 [(4, .int ry7), (3, .int zy1), (0, .ref h0), (1, .int p1), (2, .ref a3)] → GWy13 HGWy13 locs 0 0 (F0 m 38 ls [.int my12]) := by
    intro my12 HGWy13 locs ls hP hD hS hl
    refine (eGy14 _ _ _ _ _).mpr ?_
    refine lv_istore (lv' := [(5, .int my12), (4, .int ry7), (3, .int zy1), (0, .ref h0), (1, .int p1), (2, .ref a3)]) hx hb dX2_afterTick_38 hl (by decide) rfl (fun ls hl => ?_)
    refine lv_iload hx hb dX2_afterTick_40 (lv_at hl 0 rfl) ?_
    refine lv_iconst (v := 1) hx hb dX2_afterTick_42 (by decide) ?_
    refine lv_icmp_ne (tgt := 49) hx hb dX2_afterTick_43 (by decide) (fun cy16 => ?_) (fun cy16 => ?_)
    · have h_cy16 := cy16
      refine lv_iload hx hb dX2_afterTick_49 (lv_at hl 0 rfl) ?_
      refine lv_if_ne (tgt := 56) hx hb dX2_afterTick_51 (by decide) (fun cy17 => ?_) (fun cy17 => ?_)
      · have h_cy17 := cy17
        refine lv_iload hx hb dX2_afterTick_56 (lv_at hl 1 rfl) ?_
        refine lv_iload_n hx hb dX2_afterTick_58 rfl (lv_at hl 2 rfl) ?_
        refine lv_icmp_ne (tgt := 66) hx hb dX2_afterTick_59 (by decide) (fun cy18 => ?_) (fun cy18 => ?_)
        · have h_cy18 := cy18
          refine lv_iconst (v := 2) hx hb dX2_afterTick_66 (by decide) ?_
          exact W.iret (v := 2) hx hb hr (fun t ht hW => ⟨⟨2, (), rfl, trivial, by rw [ht]; exact hP, va_K.moved hW.alike hK, hD⟩, hS.F ht⟩) hS.2.2 dX2_afterTick_67
        · have h_cy18 := cy18
          refine lv_iload_n hx hb dX2_afterTick_62 rfl (lv_at hl 2 rfl) ?_
          refine lv_goto (tgt := 67) hx hb dX2_afterTick_63 (by decide) ?_
          exact W.iret (v := zy1) hx hb hr (fun t ht hW => ⟨⟨zy1, (), rfl, trivial, by rw [ht]; exact hP, va_K.moved hW.alike hK, hD⟩, hS.F ht⟩) hS.2.2 dX2_afterTick_67
      · have h_cy17 := cy17
        have by19 : IV 0 0 my12 := IV_eq_l cy17 (IV_top my12) (IV_mk (a := 0) (b := 0) (by decide) (by decide)) (by decide) (by decide)
        refine lv_iload_n hx hb dX2_afterTick_54 rfl (lv_at hl 2 rfl) ?_
        exact W.iret (v := zy1) hx hb hr (fun t ht hW => ⟨⟨zy1, (), rfl, trivial, by rw [ht]; exact hP, va_K.moved hW.alike hK, hD⟩, hS.F ht⟩) hS.2.2 dX2_afterTick_55
    · have h_cy16 := cy16
      have by20 : IV 1 1 my12 := IV_eq_l cy16 (IV_top my12) (IV_mk (a := 1) (b := 1) (by decide) (by decide)) (by decide) (by decide)
      refine lv_iload hx hb dX2_afterTick_46 (lv_at hl 1 rfl) ?_
      exact W.iret (v := ry7) hx hb hr (fun t ht hW => ⟨⟨ry7, (), rfl, trivial, by rw [ht]; exact hP, va_K.moved hW.alike hK, hD⟩, hS.F ht⟩) hS.2.2 dX2_afterTick_48
  refine (eGy14 _ _ _ _ _).mpr ?_
  refine lv_icmp_le (tgt := 37) hx hb dX2_afterTick_23 (by decide) (fun cy11 => ?_) (fun cy11 => ?_)
  · have h_cy11 := cy11
    have by21 : IV 0 1 ry9 := IV_le_l cy11 by10 (IV_mk (a := 1) (b := 1) (by decide) (by decide)) (by decide) (by decide)
    refine lv_iconst (v := 1) hx hb dX2_afterTick_37 (by decide) ?_
    exact (eGy14 _ _ _ _ _).mp (jny15 1 _ _ _ hP hD hS (lv_sub hl [0, 1, 2, 3, 4] rfl))
  · have h_cy11 := cy11
    have by22 : IV 2 12 ry9 := IV_nle_l cy11 by10 (IV_mk (a := 1) (b := 1) (by decide) (by decide)) (by decide) (by decide)
    refine lv_aload_n hx hb dX2_afterTick_26 rfl (lv_at hl 4 rfl) ?_
    refine lv_aload_n hx hb dX2_afterTick_27 rfl (lv_at hl 2 rfl) ?_
    refine lv_iload_n hx hb dX2_afterTick_28 rfl (lv_at hl 3 rfl) ?_
    refine lv_iconst (v := 1) hx hb dX2_afterTick_29 (by decide) ?_
    have hPc := hP.sub (ws' := [(h0, .inr (0, [.int h0_0, .int h0_1, .ref h0_2, .ref h0_3, .ref h0_4, .ref h0_5, .ref h0_6, .ref h0_7, .ref h0_8, .ref h0_9, .ref h0_10, .ref h0_11, .ref h0_12])), (h0_7, .inl (yh0_7, 720, .inl fh0_7))]) [0, 2] rfl
    have hDc := hD.sub (ws' := [(h0, .inr (0, [.int h0_0, .int h0_1, .ref h0_2, .ref h0_3, .ref h0_4, .ref h0_5, .ref h0_6, .ref h0_7, .ref h0_8, .ref h0_9, .ref h0_10, .ref h0_11, .ref h0_12])), (h0_7, .inl (yh0_7, 720, .inl fh0_7))]) [0, 2] (by decide) rfl
    have hKc := hK.sub (tys' := [(yh0_7, .int)]) [1] rfl
    have hFc := va_free (wc := [(h0, .inr (0, [.int h0_0, .int h0_1, .ref h0_2, .ref h0_3, .ref h0_4, .ref h0_5, .ref h0_6, .ref h0_7, .ref h0_8, .ref h0_9, .ref h0_10, .ref h0_11, .ref h0_12])), (h0_7, .inl (yh0_7, 720, .inl fh0_7))]) hD hS hA [0, 2] rfl
    refine va_calli (va_runV (As := [.int p1, .int 1]) (rest := [.ref a3]) ⟨hx, hb, hml, hown, hts⟩ (s_X0_part l dC dI h0 h0_7 h0_0 h0_1 h0_2 h0_3 h0_4 h0_5 h0_6 h0_8 h0_9 h0_10 h0_11 h0_12 yh0_7 fh0_7 p1 1 Hy8.size hy_h0_0 hy_p1 (IV_mk (by decide) (by decide)) hy_fh0_7) (cwV 2 hts gX2_afterTick_X0_part rfl rfl rfl (by decide +kernel) ⟨Nat.le_of_ble_eq_true rfl, Nat.le_of_ble_eq_true rfl⟩) ⟨fun a U g mk q => by obtain ⟨q0, q1, qP, qK, qD⟩ := q; exact ⟨q0, q1, qP, va_K.moved (u := U) (U := U.calling g mk a) (Vm.Alike.refl U.vm) qK, qD⟩, va_recv hKc hPc (ci := 0) (q0 := 0) rfl rfl, fun U hU hW => ⟨rfl, by rw [hU], by rw [hU]; exact hPc, va_K.moved hW.alike hKc, hDc.weaken (fun _ _ _ _ => trivial)⟩⟩ rfl rfl hl.1 rfl (lv_room (Nat.le_of_ble_eq_true rfl)) dX2_afterTick_30 ⟨Nat.le_of_ble_eq_true rfl, Nat.le_of_ble_eq_true rfl⟩) hS (fun q _ h => hFc q h) hFc (fun ry24 u t Hy23 locs ht hvm hw hB hz1 hk1 hS => ?_)
    obtain ⟨hP1, hK1, hD1⟩ := hB
    rw [ht] at hP1
    obtain ⟨hP, hD⟩ := va_join (wr := [(h0_4, .inl (yh0_4, 60, .inl fh0_4)), (h0_8, .inl (yh0_8, 60, .inl fh0_8)), (a3, .inl (ya3, 60, .inl fa3))]) (w1 := [(h0, .inr (0, [.int h0_0, .int h0_1, .ref h0_2, .ref h0_3, .ref h0_4, .ref h0_5, .ref h0_6, .ref h0_7, .ref h0_8, .ref h0_9, .ref h0_10, .ref h0_11, .ref h0_12])), (h0_7, .inl (yh0_7, 720, .inl fh0_7))]) hP hD [0, 2] [1, 3, 4] rfl rfl (by decide) (by decide) hk1 hFc hP1 hD1
    have hP := hP.sub (ws' := [(h0, .inr (0, [.int h0_0, .int h0_1, .ref h0_2, .ref h0_3, .ref h0_4, .ref h0_5, .ref h0_6, .ref h0_7, .ref h0_8, .ref h0_9, .ref h0_10, .ref h0_11, .ref h0_12])), (h0_4, .inl (yh0_4, 60, .inl fh0_4)), (h0_7, .inl (yh0_7, 720, .inl fh0_7)), (h0_8, .inl (yh0_8, 60, .inl fh0_8)), (a3, .inl (ya3, 60, .inl fa3))]) [3, 0, 4, 1, 2] rfl
    have hD := hD.sub (ws' := [(h0, .inr (0, [.int h0_0, .int h0_1, .ref h0_2, .ref h0_3, .ref h0_4, .ref h0_5, .ref h0_6, .ref h0_7, .ref h0_8, .ref h0_9, .ref h0_10, .ref h0_11, .ref h0_12])), (h0_4, .inl (yh0_4, 60, .inl fh0_4)), (h0_7, .inl (yh0_7, 720, .inl fh0_7)), (h0_8, .inl (yh0_8, 60, .inl fh0_8)), (a3, .inl (ya3, 60, .inl fa3))]) [3, 0, 4, 1, 2] (by decide) rfl
    have hP : va_P (dC, dI) vwCl [(h0, .inr (0, [.int h0_0, .int h0_1, .ref h0_2, .ref h0_3, .ref h0_4, .ref h0_5, .ref h0_6, .ref h0_7, .ref h0_8, .ref h0_9, .ref h0_10, .ref h0_11, .ref h0_12])), (h0_4, .inl (yh0_4, 60, .inl fh0_4)), (h0_7, .inl (yh0_7, 720, .inl fh0_7)), (h0_8, .inl (yh0_8, 60, .inl fh0_8)), (a3, .inl (ya3, 60, .inl fa3))] Hy23 := hP
    have hD : va_D A [(h0, .inr (0, [.int h0_0, .int h0_1, .ref h0_2, .ref h0_3, .ref h0_4, .ref h0_5, .ref h0_6, .ref h0_7, .ref h0_8, .ref h0_9, .ref h0_10, .ref h0_11, .ref h0_12])), (h0_4, .inl (yh0_4, 60, .inl fh0_4)), (h0_7, .inl (yh0_7, 720, .inl fh0_7)), (h0_8, .inl (yh0_8, 60, .inl fh0_8)), (a3, .inl (ya3, 60, .inl fa3))] := hD
    have by25 : IV 0 59 ry24 := hw
    refine va_iald hx hb hK hP 4 3 rfl rfl (IV_in by25 (by decide) (by decide)) dX2_afterTick_33 ?_
    refine lv_topi (fun zy26 ezy26 => ?_)
    refine lv_goto (tgt := 38) hx hb dX2_afterTick_34 (by decide) ?_
    exact (eGy14 _ _ _ _ _).mp (jny15 zy26 _ _ _ hP hD hS (lv_sub hl [0, 1, 2, 3, 4] rfl))

set_option maxHeartbeats 4000000 in
set_option maxRecDepth 100000 in
theorem s_X2_settle (l : Launch) (dC : Nat → ClassId) (dI : Nat → Nat → Nat) (h0 : Nat) (h0_4 : Nat) (h0_5 : Nat) (h0_7 : Nat) (h0_8 : Nat) (h0_9 : Nat) (h0_12 : Nat) (a3 : Nat) (h0_0 : Int32) (h0_1 : Int32) (h0_2 : Nat) (h0_3 : Nat) (h0_6 : Nat) (h0_10 : Nat) (h0_11 : Nat) (yh0_4 : ClassId) (fh0_4 : Nat → Int32) (yh0_5 : ClassId) (fh0_5 : Nat → Int32) (yh0_7 : ClassId) (fh0_7 : Nat → Int32) (yh0_8 : ClassId) (fh0_8 : Nat → Int32) (yh0_9 : ClassId) (fh0_9 : Nat → Int32) (yh0_12 : ClassId) (fh0_12 : Nat → Int32) (ya3 : ClassId) (fa3 : Nat → Int32) (sz : Nat) (hy_h0_0 : IV 0 60 h0_0) (hy_fh0_7 : AR 0 59 fh0_7) (hy_fh0_8 : AR 0 12 fh0_8) (hy_fh0_12 : AR 0 59 fh0_12) : Met l yX2_settle wsX2_settle ({ frames := 3, cells := 0, slots := 0, locals := 75 }) (va_Pc [.ref h0, .ref a3] (fun U => U.heap.size = sz ∧ va_P (dC, dI) vwCl [(h0, .inr (0, [.int h0_0, .int h0_1, .ref h0_2, .ref h0_3, .ref h0_4, .ref h0_5, .ref h0_6, .ref h0_7, .ref h0_8, .ref h0_9, .ref h0_10, .ref h0_11, .ref h0_12])), (h0_4, .inl (yh0_4, 60, .inl fh0_4)), (h0_5, .inl (yh0_5, 60, .inl fh0_5)), (h0_7, .inl (yh0_7, 720, .inl fh0_7)), (h0_8, .inl (yh0_8, 60, .inl fh0_8)), (h0_9, .inl (yh0_9, 60, .inl fh0_9)), (h0_12, .inl (yh0_12, 60, .inl fh0_12)), (a3, .inl (ya3, 60, .inl fa3))] U.heap ∧ va_K (dC, dI) vwCl [(yh0_4, .int), (yh0_5, .int), (yh0_7, .int), (yh0_8, .int), (yh0_9, .int), (yh0_12, .int), (ya3, .int)] U ∧ va_D (fun _ => True) [(h0, .inr (0, [.int h0_0, .int h0_1, .ref h0_2, .ref h0_3, .ref h0_4, .ref h0_5, .ref h0_6, .ref h0_7, .ref h0_8, .ref h0_9, .ref h0_10, .ref h0_11, .ref h0_12])), (h0_4, .inl (yh0_4, 60, .inl fh0_4)), (h0_5, .inl (yh0_5, 60, .inl fh0_5)), (h0_7, .inl (yh0_7, 720, .inl fh0_7)), (h0_8, .inl (yh0_8, 60, .inl fh0_8)), (h0_9, .inl (yh0_9, 60, .inl fh0_9)), (h0_12, .inl (yh0_12, 60, .inl fh0_12)), (a3, .inl (ya3, 60, .inl fa3))])) (va_Qv (fun (_ : Unit) => True) (fun (_ : Unit) (t : State) => ∃ (fy34 : Nat → Int32), va_P (dC, dI) vwCl [(h0, .inr (0, [.int h0_0, .int h0_1, .ref h0_2, .ref h0_3, .ref h0_4, .ref h0_5, .ref h0_6, .ref h0_7, .ref h0_8, .ref h0_9, .ref h0_10, .ref h0_11, .ref h0_12])), (h0_4, .inl (yh0_4, 60, .inl fh0_4)), (h0_5, .inl (yh0_5, 60, .inl fh0_5)), (h0_7, .inl (yh0_7, 720, .inl fh0_7)), (h0_8, .inl (yh0_8, 60, .inl fh0_8)), (h0_9, .inl (yh0_9, 60, .inl fh0_9)), (h0_12, .inl (yh0_12, 60, .inl fh0_12)), (a3, .inl (ya3, 60, .inl fy34))] t.heap ∧ va_K (dC, dI) vwCl [(yh0_4, .int), (yh0_5, .int), (yh0_7, .int), (yh0_8, .int), (yh0_9, .int), (yh0_12, .int), (ya3, .int)] t ∧ va_D (va_A [(h0, .inr (0, [.int h0_0, .int h0_1, .ref h0_2, .ref h0_3, .ref h0_4, .ref h0_5, .ref h0_6, .ref h0_7, .ref h0_8, .ref h0_9, .ref h0_10, .ref h0_11, .ref h0_12])), (h0_4, .inl (yh0_4, 60, .inl fh0_4)), (h0_5, .inl (yh0_5, 60, .inl fh0_5)), (h0_7, .inl (yh0_7, 720, .inl fh0_7)), (h0_8, .inl (yh0_8, 60, .inl fh0_8)), (h0_9, .inl (yh0_9, 60, .inl fh0_9)), (h0_12, .inl (yh0_12, 60, .inl fh0_12)), (a3, .inl (ya3, 60, .inl fa3))] sz) [(h0, .inr (0, [.int h0_0, .int h0_1, .ref h0_2, .ref h0_3, .ref h0_4, .ref h0_5, .ref h0_6, .ref h0_7, .ref h0_8, .ref h0_9, .ref h0_10, .ref h0_11, .ref h0_12])), (h0_4, .inl (yh0_4, 60, .inl fh0_4)), (h0_5, .inl (yh0_5, 60, .inl fh0_5)), (h0_7, .inl (yh0_7, 720, .inl fh0_7)), (h0_8, .inl (yh0_8, 60, .inl fh0_8)), (h0_9, .inl (yh0_9, 60, .inl fh0_9)), (h0_12, .inl (yh0_12, 60, .inl fh0_12)), (a3, .inl (ya3, 60, .inl fy34))]) (va_A [(h0, .inr (0, [.int h0_0, .int h0_1, .ref h0_2, .ref h0_3, .ref h0_4, .ref h0_5, .ref h0_6, .ref h0_7, .ref h0_8, .ref h0_9, .ref h0_10, .ref h0_11, .ref h0_12])), (h0_4, .inl (yh0_4, 60, .inl fh0_4)), (h0_5, .inl (yh0_5, 60, .inl fh0_5)), (h0_7, .inl (yh0_7, 720, .inl fh0_7)), (h0_8, .inl (yh0_8, 60, .inl fh0_8)), (h0_9, .inl (yh0_9, 60, .inl fh0_9)), (h0_12, .inl (yh0_12, 60, .inl fh0_12)), (a3, .inl (ya3, 60, .inl fa3))] sz)) 0 0 (va_A [(h0, .inr (0, [.int h0_0, .int h0_1, .ref h0_2, .ref h0_3, .ref h0_4, .ref h0_5, .ref h0_6, .ref h0_7, .ref h0_8, .ref h0_9, .ref h0_10, .ref h0_11, .ref h0_12])), (h0_4, .inl (yh0_4, 60, .inl fh0_4)), (h0_5, .inl (yh0_5, 60, .inl fh0_5)), (h0_7, .inl (yh0_7, 720, .inl fh0_7)), (h0_8, .inl (yh0_8, 60, .inl fh0_8)), (h0_9, .inl (yh0_9, 60, .inl fh0_9)), (h0_12, .inl (yh0_12, 60, .inl fh0_12)), (a3, .inl (ya3, 60, .inl fa3))] sz) := by
  refine Met.ofW (cc := cX2_settle) (maxL := 4) (ret := none) (by decide +kernel) rfl ?_
  intro p e s m args below meth c s₁ B hml hv
  obtain ⟨rfl, hsz, hP, hK, hD0⟩ := hv
  have hx := B.exec
  have hb := B.bytes
  have hr := B.returns
  have hts := atoms_spec (ws := wsX2_settle) B.pre
  have hown : s.vm.findClass RX2 = some m.cls := findClass_of_methodNamed B.named
  have hlocks := B.notSynchronized
  have inX0_ : ∀ w ∈ wsX00, w ∈ wsX2_settle := fun _ h => List.mem_cons_of_mem _ (List.mem_append_right _ h)
  subst hsz
  have hD := hD0.self (sz := s.heap.size)
  generalize hAe : va_A [(h0, .inr (0, [.int h0_0, .int h0_1, .ref h0_2, .ref h0_3, .ref h0_4, .ref h0_5, .ref h0_6, .ref h0_7, .ref h0_8, .ref h0_9, .ref h0_10, .ref h0_11, .ref h0_12])), (h0_4, .inl (yh0_4, 60, .inl fh0_4)), (h0_5, .inl (yh0_5, 60, .inl fh0_5)), (h0_7, .inl (yh0_7, 720, .inl fh0_7)), (h0_8, .inl (yh0_8, 60, .inl fh0_8)), (h0_9, .inl (yh0_9, 60, .inl fh0_9)), (h0_12, .inl (yh0_12, 60, .inl fh0_12)), (a3, .inl (ya3, 60, .inl fa3))] s.heap.size = A at hD ⊢
  have hA : ∀ q : Nat, s.heap.size ≤ q → A q := fun q h => by rw [← hAe]; exact Or.inr h
  have hS : va_S A s.heap s.heap [] := va_S.rf
  have hP : va_P (dC, dI) vwCl [(h0, .inr (0, [.int h0_0, .int h0_1, .ref h0_2, .ref h0_3, .ref h0_4, .ref h0_5, .ref h0_6, .ref h0_7, .ref h0_8, .ref h0_9, .ref h0_10, .ref h0_11, .ref h0_12])), (h0_4, .inl (yh0_4, 60, .inl fh0_4)), (h0_5, .inl (yh0_5, 60, .inl fh0_5)), (h0_7, .inl (yh0_7, 720, .inl fh0_7)), (h0_8, .inl (yh0_8, 60, .inl fh0_8)), (h0_9, .inl (yh0_9, 60, .inl fh0_9)), (h0_12, .inl (yh0_12, 60, .inl fh0_12)), (a3, .inl (ya3, 60, .inl fa3))] s.heap := hP
  have hl := lv_entry ([.ref h0, .ref a3]) (n := 4) (Nat.le_of_ble_eq_true rfl)
  rw [lg_entry_eq]
  generalize (lg_sl ([.ref h0, .ref a3]) ++ List.replicate (4 - (lg_sl ([.ref h0, .ref a3])).length) Slot.unset).toArray = ls at hl ⊢
  have hl : lv_has ls 4 [(0, .ref h0), (1, .ref a3)] := hl
  refine lv_iconst (v := 0) hx hb dX2_settle_0 (by decide) ?_
  refine lv_istore_n (lv' := [(2, .int 0), (0, .ref h0), (1, .ref a3)]) hx hb dX2_settle_1 rfl hl (by decide) rfl (fun ls hl => ?_)
  refine W_abs (fun GWy7 eGy8 => ?_)
  have lpy9 : ∀ (n : Nat) (my5 : Int32) (fy6 : Nat → Int32) (HGWy7 : Heap) (locs : List Loc) (ls : Array Slot), 61 - my5.toInt ≤ (n : Int) → IV 0 60 my5 → va_P (dC, dI) vwCl [(h0, .inr (0, [.int h0_0, .int h0_1, .ref h0_2, .ref h0_3, .ref h0_4, .ref h0_5, .ref h0_6, .ref h0_7, .ref h0_8, .ref h0_9, .ref h0_10, .ref h0_11, .ref h0_12])), (h0_4, .inl (yh0_4, 60, .inl fh0_4)), (h0_5, .inl (yh0_5, 60, .inl fh0_5)), (h0_7, .inl (yh0_7, 720, .inl fh0_7)), (h0_8, .inl (yh0_8, 60, .inl fh0_8)), (h0_9, .inl (yh0_9, 60, .inl fh0_9)), (h0_12, .inl (yh0_12, 60, .inl fh0_12)), (a3, .inl (ya3, 60, .inl fy6))] HGWy7 → va_D A [(h0, .inr (0, [.int h0_0, .int h0_1, .ref h0_2, .ref h0_3, .ref h0_4, .ref h0_5, .ref h0_6, .ref h0_7, .ref h0_8, .ref h0_9, .ref h0_10, .ref h0_11, .ref h0_12])), (h0_4, .inl (yh0_4, 60, .inl fh0_4)), (h0_5, .inl (yh0_5, 60, .inl fh0_5)), (h0_7, .inl (yh0_7, 720, .inl fh0_7)), (h0_8, .inl (yh0_8, 60, .inl fh0_8)), (h0_9, .inl (yh0_9, 60, .inl fh0_9)), (h0_12, .inl (yh0_12, 60, .inl fh0_12)), (a3, .inl (ya3, 60, .inl fy6))] → va_S A s.heap HGWy7 locs → lv_has ls 4 [(2, .int my5), (0, .ref h0), (1, .ref a3)] → GWy7 HGWy7 locs 0 0 (F0 m 2 ls []) := by
    intro n
    induction n with
    | zero =>
      intro my5 fy6 HGWy7 locs ls hmGWy7 hmy5 hP hD hS hl
      exact (IV_u0 hmy5 hmGWy7 (by decide)).elim
    | succ n ihGWy7 =>
      intro my5 fy6 HGWy7 locs ls hmGWy7 hmy5 hP hD hS hl
      refine (eGy8 _ _ _ _ _).mpr ?_
      refine lv_iload_n hx hb dX2_settle_2 rfl (lv_at hl 0 rfl) ?_
      refine lv_aload_n hx hb dX2_settle_3 rfl (lv_at hl 1 rfl) ?_
      refine va_get (D := (dC, dI)) (ci := 0) (v := .int h0_0) (C := RX0) (T := TX0) (N := 13) hx hb hts inX0_ hown hK hP 0 rfl rfl 0 (by decide) (hts (.fieldLink RX2 9 "GateWheel$Circuit" "count" "I") (List.mem_of_getElem? (i := 1) rfl)) (fun _ h9 => h9) rfl dX2_settle_4 ?_
      refine lv_icmp_ge (tgt := 64) hx hb dX2_settle_7 (by decide) (fun cy10 => ?_) (fun cy10 => ?_)
      · have h_cy10 := cy10
        exact W.vret hx hb hr (fun t ht hW => ⟨⟨(), rfl, trivial, fy6, by rw [ht]; exact hP, va_K.moved hW.alike hK, hD⟩, hS.F ht⟩) hS.2.2 dX2_settle_64
      · have h_cy10 := cy10
        have by11 : IV 1 60 h0_0 := IV_nle_l cy10 hy_h0_0 hmy5 (by decide) (by decide)
        have by12 : IV 0 59 my5 := IV_nle_r cy10 hy_h0_0 hmy5 (by decide) (by decide)
        refine lv_aload_n hx hb dX2_settle_10 rfl (lv_at hl 1 rfl) ?_
        refine va_get (D := (dC, dI)) (ci := 0) (v := .ref h0_12) (C := RX0) (T := TX0) (N := 13) hx hb hts inX0_ hown hK hP 0 rfl rfl 12 (by decide) (hts (.fieldLink RX2 15 "GateWheel$Circuit" "order" "[I") (List.mem_of_getElem? (i := 2) rfl)) (fun _ h9 => h9) rfl dX2_settle_11 ?_
        refine lv_iload_n hx hb dX2_settle_14 rfl (lv_at hl 0 rfl) ?_
        refine va_iald hx hb hK hP 6 5 rfl rfl (IV_in by12 (by decide) (by decide)) dX2_settle_15 ?_
        refine lv_topi (fun zy13 ezy13 => ?_)
        have by14 : IV 0 59 zy13 := AR_get hy_fh0_12 ezy13
        refine lv_istore_n (lv' := [(3, .int zy13), (2, .int my5), (0, .ref h0), (1, .ref a3)]) hx hb dX2_settle_16 rfl hl (by decide) rfl (fun ls hl => ?_)
        refine lv_aload_n hx hb dX2_settle_17 rfl (lv_at hl 2 rfl) ?_
        refine va_get (D := (dC, dI)) (ci := 0) (v := .ref h0_4) (C := RX0) (T := TX0) (N := 13) hx hb hts inX0_ hown hK hP 0 rfl rfl 4 (by decide) (hts (.fieldLink RX2 19 "GateWheel$Circuit" "kinds" "[I") (List.mem_of_getElem? (i := 3) rfl)) (fun _ h9 => h9) rfl dX2_settle_18 ?_
        refine lv_iload_n hx hb dX2_settle_21 rfl (lv_at hl 0 rfl) ?_
        refine va_iald hx hb hK hP 1 0 rfl rfl (IV_in by14 (by decide) (by decide)) dX2_settle_22 ?_
        refine lv_topi (fun zy15 ezy15 => ?_)
        refine lv_iconst (v := 2) hx hb dX2_settle_23 (by decide) ?_
        refine lv_icmp_ne (tgt := 39) hx hb dX2_settle_24 (by decide) (fun cy16 => ?_) (fun cy16 => ?_)
        · have h_cy16 := cy16
          refine lv_aload_n hx hb dX2_settle_39 rfl (lv_at hl 2 rfl) ?_
          refine va_get (D := (dC, dI)) (ci := 0) (v := .ref h0_4) (C := RX0) (T := TX0) (N := 13) hx hb hts inX0_ hown hK hP 0 rfl rfl 4 (by decide) (hts (.fieldLink RX2 19 "GateWheel$Circuit" "kinds" "[I") (List.mem_of_getElem? (i := 3) rfl)) (fun _ h9 => h9) rfl dX2_settle_40 ?_
          refine lv_iload_n hx hb dX2_settle_43 rfl (lv_at hl 0 rfl) ?_
          refine va_iald hx hb hK hP 1 0 rfl rfl (IV_in by14 (by decide) (by decide)) dX2_settle_44 ?_
          rw [← ezy15]
          refine lv_iconst (v := 1) hx hb dX2_settle_45 (by decide) ?_
          refine lv_icmp_ne (tgt := 58) hx hb dX2_settle_46 (by decide) (fun cy17 => ?_) (fun cy17 => ?_)
          · have h_cy17 := cy17
            obtain ⟨zy18, ezy18⟩ : ∃ y : Int32, y = my5 + Int32.ofInt 1 := ⟨_, rfl⟩
            have by19 : IV 1 60 zy18 := IV_add (c := 1) (d := 1) ezy18 by12 (IV_mk (by decide) (by decide)) (by decide) (by decide) (by decide) (by decide)
            refine lv_iinc (v := zy18) (lv' := [(2, .int zy18), (3, .int zy13), (0, .ref h0), (1, .ref a3)]) hx hb dX2_settle_58 hl (k := 1) rfl ezy18.symm (by decide) rfl (fun ls hl => ?_)
            refine lv_goto (tgt := 2) hx hb dX2_settle_61 (by decide) ?_
            exact (eGy8 _ _ _ _ _).mp (ihGWy7 zy18 fy6 _ _ _ (IV_u1 hmGWy7 (IV_step (c := 1) ezy18 by12 (by decide) (by decide) (by decide)) (by decide)) (IV_wk by19 (by decide) (by decide)) hP hD hS (lv_sub hl [0, 2, 3] rfl))
          · have h_cy17 := cy17
            have by20 : IV 1 1 zy15 := IV_eq_l cy17 (IV_top zy15) (IV_mk (a := 1) (b := 1) (by decide) (by decide)) (by decide) (by decide)
            refine lv_aload_n hx hb dX2_settle_49 rfl (lv_at hl 3 rfl) ?_
            refine lv_iload_n hx hb dX2_settle_50 rfl (lv_at hl 0 rfl) ?_
            refine lv_aload_n hx hb dX2_settle_51 rfl (lv_at hl 2 rfl) ?_
            refine lv_iload_n hx hb dX2_settle_52 rfl (lv_at hl 0 rfl) ?_
            refine lv_aload_n hx hb dX2_settle_53 rfl (lv_at hl 3 rfl) ?_
            have hPc := hP.sub (ws' := [(h0, .inr (0, [.int h0_0, .int h0_1, .ref h0_2, .ref h0_3, .ref h0_4, .ref h0_5, .ref h0_6, .ref h0_7, .ref h0_8, .ref h0_9, .ref h0_10, .ref h0_11, .ref h0_12])), (h0_4, .inl (yh0_4, 60, .inl fh0_4)), (h0_7, .inl (yh0_7, 720, .inl fh0_7)), (h0_8, .inl (yh0_8, 60, .inl fh0_8)), (h0_9, .inl (yh0_9, 60, .inl fh0_9)), (a3, .inl (ya3, 60, .inl fy6))]) [0, 1, 3, 4, 5, 7] rfl
            have hDc := hD.sub (ws' := [(h0, .inr (0, [.int h0_0, .int h0_1, .ref h0_2, .ref h0_3, .ref h0_4, .ref h0_5, .ref h0_6, .ref h0_7, .ref h0_8, .ref h0_9, .ref h0_10, .ref h0_11, .ref h0_12])), (h0_4, .inl (yh0_4, 60, .inl fh0_4)), (h0_7, .inl (yh0_7, 720, .inl fh0_7)), (h0_8, .inl (yh0_8, 60, .inl fh0_8)), (h0_9, .inl (yh0_9, 60, .inl fh0_9)), (a3, .inl (ya3, 60, .inl fy6))]) [0, 1, 3, 4, 5, 7] (by decide) rfl
            have hKc := hK.sub (tys' := [(yh0_4, .int), (yh0_7, .int), (yh0_8, .int), (yh0_9, .int), (ya3, .int)]) [0, 2, 3, 4, 6] rfl
            have hFc := va_free (wc := [(h0, .inr (0, [.int h0_0, .int h0_1, .ref h0_2, .ref h0_3, .ref h0_4, .ref h0_5, .ref h0_6, .ref h0_7, .ref h0_8, .ref h0_9, .ref h0_10, .ref h0_11, .ref h0_12])), (h0_4, .inl (yh0_4, 60, .inl fh0_4)), (h0_7, .inl (yh0_7, 720, .inl fh0_7)), (h0_8, .inl (yh0_8, 60, .inl fh0_8)), (h0_9, .inl (yh0_9, 60, .inl fh0_9)), (a3, .inl (ya3, 60, .inl fy6))]) hD hS hA [0, 1, 3, 4, 5, 7] rfl
            refine va_calli (va_runS (As := [.ref h0, .int zy13, .ref a3]) (rest := [.int zy13, .ref a3]) ⟨hx, hb, hml, hown, hts⟩ (s_X2_busValue l dC dI h0 h0_4 h0_7 h0_8 h0_9 a3 h0_0 h0_1 h0_2 h0_3 h0_5 h0_6 h0_10 h0_11 h0_12 yh0_4 fh0_4 yh0_7 fh0_7 yh0_8 fh0_8 yh0_9 fh0_9 ya3 fy6 zy13 zy15 HGWy7.size ezy15 by20 (IV_wk by11 (by decide) (by decide)) by14 hy_fh0_7 hy_fh0_8) (va_cwS 3 hts gX2_settle_X2_busValue rfl rfl rfl (by decide +kernel) ⟨Nat.le_of_ble_eq_true rfl, Nat.le_of_ble_eq_true rfl⟩) ⟨fun a U g mk q => by obtain ⟨q0, q1, qP, qK, qD⟩ := q; exact ⟨q0, q1, qP, va_K.moved (u := U) (U := U.calling g mk a) (Vm.Alike.refl U.vm) qK, qD⟩, fun U hU hW => ⟨rfl, by rw [hU], by rw [hU]; exact hPc, va_K.moved hW.alike hKc, hDc.weaken (fun _ _ _ _ => trivial)⟩⟩ rfl rfl hl.1 rfl (lv_room (Nat.le_of_ble_eq_true rfl)) dX2_settle_54 ⟨Nat.le_of_ble_eq_true rfl, Nat.le_of_ble_eq_true rfl⟩) hS (fun q _ h => hFc q h) hFc (fun ry22 u t Hy21 locs ht hvm hw hB hz1 hk1 hS => ?_)
            obtain ⟨hP1, hK1, hD1⟩ := hB
            rw [ht] at hP1
            obtain ⟨hP, hD⟩ := va_join (wr := [(h0_5, .inl (yh0_5, 60, .inl fh0_5)), (h0_12, .inl (yh0_12, 60, .inl fh0_12))]) (w1 := [(h0, .inr (0, [.int h0_0, .int h0_1, .ref h0_2, .ref h0_3, .ref h0_4, .ref h0_5, .ref h0_6, .ref h0_7, .ref h0_8, .ref h0_9, .ref h0_10, .ref h0_11, .ref h0_12])), (h0_4, .inl (yh0_4, 60, .inl fh0_4)), (h0_7, .inl (yh0_7, 720, .inl fh0_7)), (h0_8, .inl (yh0_8, 60, .inl fh0_8)), (h0_9, .inl (yh0_9, 60, .inl fh0_9)), (a3, .inl (ya3, 60, .inl fy6))]) hP hD [0, 1, 3, 4, 5, 7] [2, 6] rfl rfl (by decide) (by decide) hk1 hFc hP1 hD1
            have hP := hP.sub (ws' := [(h0, .inr (0, [.int h0_0, .int h0_1, .ref h0_2, .ref h0_3, .ref h0_4, .ref h0_5, .ref h0_6, .ref h0_7, .ref h0_8, .ref h0_9, .ref h0_10, .ref h0_11, .ref h0_12])), (h0_4, .inl (yh0_4, 60, .inl fh0_4)), (h0_5, .inl (yh0_5, 60, .inl fh0_5)), (h0_7, .inl (yh0_7, 720, .inl fh0_7)), (h0_8, .inl (yh0_8, 60, .inl fh0_8)), (h0_9, .inl (yh0_9, 60, .inl fh0_9)), (h0_12, .inl (yh0_12, 60, .inl fh0_12)), (a3, .inl (ya3, 60, .inl fy6))]) [2, 3, 0, 4, 5, 6, 1, 7] rfl
            have hD := hD.sub (ws' := [(h0, .inr (0, [.int h0_0, .int h0_1, .ref h0_2, .ref h0_3, .ref h0_4, .ref h0_5, .ref h0_6, .ref h0_7, .ref h0_8, .ref h0_9, .ref h0_10, .ref h0_11, .ref h0_12])), (h0_4, .inl (yh0_4, 60, .inl fh0_4)), (h0_5, .inl (yh0_5, 60, .inl fh0_5)), (h0_7, .inl (yh0_7, 720, .inl fh0_7)), (h0_8, .inl (yh0_8, 60, .inl fh0_8)), (h0_9, .inl (yh0_9, 60, .inl fh0_9)), (h0_12, .inl (yh0_12, 60, .inl fh0_12)), (a3, .inl (ya3, 60, .inl fy6))]) [2, 3, 0, 4, 5, 6, 1, 7] (by decide) rfl
            have hP : va_P (dC, dI) vwCl [(h0, .inr (0, [.int h0_0, .int h0_1, .ref h0_2, .ref h0_3, .ref h0_4, .ref h0_5, .ref h0_6, .ref h0_7, .ref h0_8, .ref h0_9, .ref h0_10, .ref h0_11, .ref h0_12])), (h0_4, .inl (yh0_4, 60, .inl fh0_4)), (h0_5, .inl (yh0_5, 60, .inl fh0_5)), (h0_7, .inl (yh0_7, 720, .inl fh0_7)), (h0_8, .inl (yh0_8, 60, .inl fh0_8)), (h0_9, .inl (yh0_9, 60, .inl fh0_9)), (h0_12, .inl (yh0_12, 60, .inl fh0_12)), (a3, .inl (ya3, 60, .inl fy6))] Hy21 := hP
            have hD : va_D A [(h0, .inr (0, [.int h0_0, .int h0_1, .ref h0_2, .ref h0_3, .ref h0_4, .ref h0_5, .ref h0_6, .ref h0_7, .ref h0_8, .ref h0_9, .ref h0_10, .ref h0_11, .ref h0_12])), (h0_4, .inl (yh0_4, 60, .inl fh0_4)), (h0_5, .inl (yh0_5, 60, .inl fh0_5)), (h0_7, .inl (yh0_7, 720, .inl fh0_7)), (h0_8, .inl (yh0_8, 60, .inl fh0_8)), (h0_9, .inl (yh0_9, 60, .inl fh0_9)), (h0_12, .inl (yh0_12, 60, .inl fh0_12)), (a3, .inl (ya3, 60, .inl fy6))] := hD
            refine va_iast hx hb hK hP hD hS 7 6 rfl rfl (IV_in by14 (by decide) (by decide)) dX2_settle_57 (fun Hy23 locs hP hD hS => ?_)
            have hP : va_P (dC, dI) vwCl [(h0, .inr (0, [.int h0_0, .int h0_1, .ref h0_2, .ref h0_3, .ref h0_4, .ref h0_5, .ref h0_6, .ref h0_7, .ref h0_8, .ref h0_9, .ref h0_10, .ref h0_11, .ref h0_12])), (h0_4, .inl (yh0_4, 60, .inl fh0_4)), (h0_5, .inl (yh0_5, 60, .inl fh0_5)), (h0_7, .inl (yh0_7, 720, .inl fh0_7)), (h0_8, .inl (yh0_8, 60, .inl fh0_8)), (h0_9, .inl (yh0_9, 60, .inl fh0_9)), (h0_12, .inl (yh0_12, 60, .inl fh0_12)), (a3, .inl (ya3, 60, .inl (upd fy6 (zy13 : Int32).toNatClampNeg ry22)))] Hy23 := hP
            have hD : va_D A [(h0, .inr (0, [.int h0_0, .int h0_1, .ref h0_2, .ref h0_3, .ref h0_4, .ref h0_5, .ref h0_6, .ref h0_7, .ref h0_8, .ref h0_9, .ref h0_10, .ref h0_11, .ref h0_12])), (h0_4, .inl (yh0_4, 60, .inl fh0_4)), (h0_5, .inl (yh0_5, 60, .inl fh0_5)), (h0_7, .inl (yh0_7, 720, .inl fh0_7)), (h0_8, .inl (yh0_8, 60, .inl fh0_8)), (h0_9, .inl (yh0_9, 60, .inl fh0_9)), (h0_12, .inl (yh0_12, 60, .inl fh0_12)), (a3, .inl (ya3, 60, .inl (upd fy6 (zy13 : Int32).toNatClampNeg ry22)))] := hD
            generalize (upd fy6 (zy13 : Int32).toNatClampNeg ry22) = fy24 at hP hD
            obtain ⟨zy25, ezy25⟩ : ∃ y : Int32, y = my5 + Int32.ofInt 1 := ⟨_, rfl⟩
            have by26 : IV 1 60 zy25 := IV_add (c := 1) (d := 1) ezy25 by12 (IV_mk (by decide) (by decide)) (by decide) (by decide) (by decide) (by decide)
            refine lv_iinc (v := zy25) (lv' := [(2, .int zy25), (3, .int zy13), (0, .ref h0), (1, .ref a3)]) hx hb dX2_settle_58 hl (k := 1) rfl ezy25.symm (by decide) rfl (fun ls hl => ?_)
            refine lv_goto (tgt := 2) hx hb dX2_settle_61 (by decide) ?_
            exact (eGy8 _ _ _ _ _).mp (ihGWy7 zy25 fy24 _ _ _ (IV_u1 hmGWy7 (IV_step (c := 1) ezy25 by12 (by decide) (by decide) (by decide)) (by decide)) (IV_wk by26 (by decide) (by decide)) hP hD hS (lv_sub hl [0, 2, 3] rfl))
        · have h_cy16 := cy16
          have by27 : IV 2 2 zy15 := IV_eq_l cy16 (IV_top zy15) (IV_mk (a := 2) (b := 2) (by decide) (by decide)) (by decide) (by decide)
          refine lv_aload_n hx hb dX2_settle_27 rfl (lv_at hl 3 rfl) ?_
          refine lv_iload_n hx hb dX2_settle_28 rfl (lv_at hl 0 rfl) ?_
          refine lv_aload_n hx hb dX2_settle_29 rfl (lv_at hl 2 rfl) ?_
          refine lv_iload_n hx hb dX2_settle_30 rfl (lv_at hl 0 rfl) ?_
          refine lv_aload_n hx hb dX2_settle_31 rfl (lv_at hl 3 rfl) ?_
          have hPc := hP.sub (ws' := [(h0, .inr (0, [.int h0_0, .int h0_1, .ref h0_2, .ref h0_3, .ref h0_4, .ref h0_5, .ref h0_6, .ref h0_7, .ref h0_8, .ref h0_9, .ref h0_10, .ref h0_11, .ref h0_12])), (h0_4, .inl (yh0_4, 60, .inl fh0_4)), (h0_5, .inl (yh0_5, 60, .inl fh0_5)), (h0_7, .inl (yh0_7, 720, .inl fh0_7)), (h0_8, .inl (yh0_8, 60, .inl fh0_8)), (a3, .inl (ya3, 60, .inl fy6))]) [0, 1, 2, 3, 4, 7] rfl
          have hDc := hD.sub (ws' := [(h0, .inr (0, [.int h0_0, .int h0_1, .ref h0_2, .ref h0_3, .ref h0_4, .ref h0_5, .ref h0_6, .ref h0_7, .ref h0_8, .ref h0_9, .ref h0_10, .ref h0_11, .ref h0_12])), (h0_4, .inl (yh0_4, 60, .inl fh0_4)), (h0_5, .inl (yh0_5, 60, .inl fh0_5)), (h0_7, .inl (yh0_7, 720, .inl fh0_7)), (h0_8, .inl (yh0_8, 60, .inl fh0_8)), (a3, .inl (ya3, 60, .inl fy6))]) [0, 1, 2, 3, 4, 7] (by decide) rfl
          have hKc := hK.sub (tys' := [(yh0_4, .int), (yh0_5, .int), (yh0_7, .int), (yh0_8, .int), (ya3, .int)]) [0, 1, 2, 3, 6] rfl
          have hFc := va_free (wc := [(h0, .inr (0, [.int h0_0, .int h0_1, .ref h0_2, .ref h0_3, .ref h0_4, .ref h0_5, .ref h0_6, .ref h0_7, .ref h0_8, .ref h0_9, .ref h0_10, .ref h0_11, .ref h0_12])), (h0_4, .inl (yh0_4, 60, .inl fh0_4)), (h0_5, .inl (yh0_5, 60, .inl fh0_5)), (h0_7, .inl (yh0_7, 720, .inl fh0_7)), (h0_8, .inl (yh0_8, 60, .inl fh0_8)), (a3, .inl (ya3, 60, .inl fy6))]) hD hS hA [0, 1, 2, 3, 4, 7] rfl
          refine va_calli (va_runS (As := [.ref h0, .int zy13, .ref a3]) (rest := [.int zy13, .ref a3]) ⟨hx, hb, hml, hown, hts⟩ (s_X2_gateValue l dC dI h0 h0_4 h0_5 h0_7 h0_8 a3 h0_0 h0_1 h0_2 h0_3 h0_6 h0_9 h0_10 h0_11 h0_12 yh0_4 fh0_4 yh0_5 fh0_5 yh0_7 fh0_7 yh0_8 fh0_8 ya3 fy6 zy13 HGWy7.size (IV_wk by11 (by decide) (by decide)) by14 hy_fh0_7 hy_fh0_8) (va_cwS 3 hts gX2_settle_X2_gateValue rfl rfl rfl (by decide +kernel) ⟨Nat.le_of_ble_eq_true rfl, Nat.le_of_ble_eq_true rfl⟩) ⟨fun a U g mk q => by obtain ⟨q0, q1, qP, qK, qD⟩ := q; exact ⟨q0, q1, qP, va_K.moved (u := U) (U := U.calling g mk a) (Vm.Alike.refl U.vm) qK, qD⟩, fun U hU hW => ⟨rfl, by rw [hU], by rw [hU]; exact hPc, va_K.moved hW.alike hKc, hDc.weaken (fun _ _ _ _ => trivial)⟩⟩ rfl rfl hl.1 rfl (lv_room (Nat.le_of_ble_eq_true rfl)) dX2_settle_32 ⟨Nat.le_of_ble_eq_true rfl, Nat.le_of_ble_eq_true rfl⟩) hS (fun q _ h => hFc q h) hFc (fun ry29 u t Hy28 locs ht hvm hw hB hz1 hk1 hS => ?_)
          obtain ⟨hP1, hK1, hD1⟩ := hB
          rw [ht] at hP1
          obtain ⟨hP, hD⟩ := va_join (wr := [(h0_9, .inl (yh0_9, 60, .inl fh0_9)), (h0_12, .inl (yh0_12, 60, .inl fh0_12))]) (w1 := [(h0, .inr (0, [.int h0_0, .int h0_1, .ref h0_2, .ref h0_3, .ref h0_4, .ref h0_5, .ref h0_6, .ref h0_7, .ref h0_8, .ref h0_9, .ref h0_10, .ref h0_11, .ref h0_12])), (h0_4, .inl (yh0_4, 60, .inl fh0_4)), (h0_5, .inl (yh0_5, 60, .inl fh0_5)), (h0_7, .inl (yh0_7, 720, .inl fh0_7)), (h0_8, .inl (yh0_8, 60, .inl fh0_8)), (a3, .inl (ya3, 60, .inl fy6))]) hP hD [0, 1, 2, 3, 4, 7] [5, 6] rfl rfl (by decide) (by decide) hk1 hFc hP1 hD1
          have hP := hP.sub (ws' := [(h0, .inr (0, [.int h0_0, .int h0_1, .ref h0_2, .ref h0_3, .ref h0_4, .ref h0_5, .ref h0_6, .ref h0_7, .ref h0_8, .ref h0_9, .ref h0_10, .ref h0_11, .ref h0_12])), (h0_4, .inl (yh0_4, 60, .inl fh0_4)), (h0_5, .inl (yh0_5, 60, .inl fh0_5)), (h0_7, .inl (yh0_7, 720, .inl fh0_7)), (h0_8, .inl (yh0_8, 60, .inl fh0_8)), (h0_9, .inl (yh0_9, 60, .inl fh0_9)), (h0_12, .inl (yh0_12, 60, .inl fh0_12)), (a3, .inl (ya3, 60, .inl fy6))]) [2, 3, 4, 5, 6, 0, 1, 7] rfl
          have hD := hD.sub (ws' := [(h0, .inr (0, [.int h0_0, .int h0_1, .ref h0_2, .ref h0_3, .ref h0_4, .ref h0_5, .ref h0_6, .ref h0_7, .ref h0_8, .ref h0_9, .ref h0_10, .ref h0_11, .ref h0_12])), (h0_4, .inl (yh0_4, 60, .inl fh0_4)), (h0_5, .inl (yh0_5, 60, .inl fh0_5)), (h0_7, .inl (yh0_7, 720, .inl fh0_7)), (h0_8, .inl (yh0_8, 60, .inl fh0_8)), (h0_9, .inl (yh0_9, 60, .inl fh0_9)), (h0_12, .inl (yh0_12, 60, .inl fh0_12)), (a3, .inl (ya3, 60, .inl fy6))]) [2, 3, 4, 5, 6, 0, 1, 7] (by decide) rfl
          have hP : va_P (dC, dI) vwCl [(h0, .inr (0, [.int h0_0, .int h0_1, .ref h0_2, .ref h0_3, .ref h0_4, .ref h0_5, .ref h0_6, .ref h0_7, .ref h0_8, .ref h0_9, .ref h0_10, .ref h0_11, .ref h0_12])), (h0_4, .inl (yh0_4, 60, .inl fh0_4)), (h0_5, .inl (yh0_5, 60, .inl fh0_5)), (h0_7, .inl (yh0_7, 720, .inl fh0_7)), (h0_8, .inl (yh0_8, 60, .inl fh0_8)), (h0_9, .inl (yh0_9, 60, .inl fh0_9)), (h0_12, .inl (yh0_12, 60, .inl fh0_12)), (a3, .inl (ya3, 60, .inl fy6))] Hy28 := hP
          have hD : va_D A [(h0, .inr (0, [.int h0_0, .int h0_1, .ref h0_2, .ref h0_3, .ref h0_4, .ref h0_5, .ref h0_6, .ref h0_7, .ref h0_8, .ref h0_9, .ref h0_10, .ref h0_11, .ref h0_12])), (h0_4, .inl (yh0_4, 60, .inl fh0_4)), (h0_5, .inl (yh0_5, 60, .inl fh0_5)), (h0_7, .inl (yh0_7, 720, .inl fh0_7)), (h0_8, .inl (yh0_8, 60, .inl fh0_8)), (h0_9, .inl (yh0_9, 60, .inl fh0_9)), (h0_12, .inl (yh0_12, 60, .inl fh0_12)), (a3, .inl (ya3, 60, .inl fy6))] := hD
          refine va_iast hx hb hK hP hD hS 7 6 rfl rfl (IV_in by14 (by decide) (by decide)) dX2_settle_35 (fun Hy30 locs hP hD hS => ?_)
          have hP : va_P (dC, dI) vwCl [(h0, .inr (0, [.int h0_0, .int h0_1, .ref h0_2, .ref h0_3, .ref h0_4, .ref h0_5, .ref h0_6, .ref h0_7, .ref h0_8, .ref h0_9, .ref h0_10, .ref h0_11, .ref h0_12])), (h0_4, .inl (yh0_4, 60, .inl fh0_4)), (h0_5, .inl (yh0_5, 60, .inl fh0_5)), (h0_7, .inl (yh0_7, 720, .inl fh0_7)), (h0_8, .inl (yh0_8, 60, .inl fh0_8)), (h0_9, .inl (yh0_9, 60, .inl fh0_9)), (h0_12, .inl (yh0_12, 60, .inl fh0_12)), (a3, .inl (ya3, 60, .inl (upd fy6 (zy13 : Int32).toNatClampNeg ry29)))] Hy30 := hP
          have hD : va_D A [(h0, .inr (0, [.int h0_0, .int h0_1, .ref h0_2, .ref h0_3, .ref h0_4, .ref h0_5, .ref h0_6, .ref h0_7, .ref h0_8, .ref h0_9, .ref h0_10, .ref h0_11, .ref h0_12])), (h0_4, .inl (yh0_4, 60, .inl fh0_4)), (h0_5, .inl (yh0_5, 60, .inl fh0_5)), (h0_7, .inl (yh0_7, 720, .inl fh0_7)), (h0_8, .inl (yh0_8, 60, .inl fh0_8)), (h0_9, .inl (yh0_9, 60, .inl fh0_9)), (h0_12, .inl (yh0_12, 60, .inl fh0_12)), (a3, .inl (ya3, 60, .inl (upd fy6 (zy13 : Int32).toNatClampNeg ry29)))] := hD
          generalize (upd fy6 (zy13 : Int32).toNatClampNeg ry29) = fy31 at hP hD
          refine lv_goto (tgt := 58) hx hb dX2_settle_36 (by decide) ?_
          obtain ⟨zy32, ezy32⟩ : ∃ y : Int32, y = my5 + Int32.ofInt 1 := ⟨_, rfl⟩
          have by33 : IV 1 60 zy32 := IV_add (c := 1) (d := 1) ezy32 by12 (IV_mk (by decide) (by decide)) (by decide) (by decide) (by decide) (by decide)
          refine lv_iinc (v := zy32) (lv' := [(2, .int zy32), (3, .int zy13), (0, .ref h0), (1, .ref a3)]) hx hb dX2_settle_58 hl (k := 1) rfl ezy32.symm (by decide) rfl (fun ls hl => ?_)
          refine lv_goto (tgt := 2) hx hb dX2_settle_61 (by decide) ?_
          exact (eGy8 _ _ _ _ _).mp (ihGWy7 zy32 fy31 _ _ _ (IV_u1 hmGWy7 (IV_step (c := 1) ezy32 by12 (by decide) (by decide) (by decide)) (by decide)) (IV_wk by33 (by decide) (by decide)) hP hD hS (lv_sub hl [0, 2, 3] rfl))
  exact lpy9 61 0 fa3 _ _ _ (IV_ui (IV_mk (a := 0) (b := 0) (by decide) (by decide)) (by decide)) (IV_mk (by decide) (by decide)) hP hD hS (lv_sub hl [0, 1, 2] rfl)
