set_option maxHeartbeats 4000000 in
set_option maxRecDepth 100000 in
theorem c_X6_end (l : Launch) (dC : Nat → ClassId) (dI : Nat → Nat → Nat) (h0 : Nat) (h0_0 : Nat) (h0_2 : Nat) (h0_3 : Nat) (h0_4 : Nat) (h0_5 : Nat) (h0_6 : Nat) (h0_7 : Nat) (h0_8 : Nat) (h0_9 : Int32) (h0_10 : Nat) (h0_11 : Int32) (p1 : Int32) (sz : Nat) : Met l yX6_end wsX6_end ({ frames := 0, cells := 0, slots := 0, locals := 0 }) (va_Pc [.ref h0, .int p1] (fun U => U.heap.size = sz ∧ va_P (dC, dI) vwCl [(h0, .inr (5, [.ref h0_0, .int 0, .ref h0_2, .ref h0_3, .ref h0_4, .ref h0_5, .ref h0_6, .ref h0_7, .ref h0_8, .int h0_9, .ref h0_10, .int h0_11]))] U.heap ∧ va_K (dC, dI) vwCl [] U ∧ va_D (fun _ => True) [(h0, .inr (5, [.ref h0_0, .int 0, .ref h0_2, .ref h0_3, .ref h0_4, .ref h0_5, .ref h0_6, .ref h0_7, .ref h0_8, .int h0_9, .ref h0_10, .int h0_11]))])) (va_Qi (fun (r : Int32) (_ : Unit) => r = fE p1) (fun (_ : Unit) (_ : State) => True) (va_A [(h0, .inr (5, [.ref h0_0, .int 0, .ref h0_2, .ref h0_3, .ref h0_4, .ref h0_5, .ref h0_6, .ref h0_7, .ref h0_8, .int h0_9, .ref h0_10, .int h0_11]))] sz)) 0 0 (va_A [(h0, .inr (5, [.ref h0_0, .int 0, .ref h0_2, .ref h0_3, .ref h0_4, .ref h0_5, .ref h0_6, .ref h0_7, .ref h0_8, .int h0_9, .ref h0_10, .int h0_11]))] sz) := by
  refine Met.ofW (cc := cX6_end) (maxL := 2) (ret := (some .int)) (by decide) rfl ?_
  intro p e s m args below meth c s₁ B hml hv
  obtain ⟨rfl, hsz, hP, hK, hD0⟩ := hv
  have hx := B.exec
  have hb := B.bytes
  have hr := B.returns
  have hts := atoms_spec (ws := wsX6_end) B.pre
  have hown : s.vm.findClass RX6 = some m.cls := findClass_of_methodNamed B.named
  have hlocks := B.notSynchronized
  have inX6_ : ∀ w ∈ wsX60, w ∈ wsX6_end := fun _ h => List.mem_cons_of_mem _ (List.mem_append_right _ h)
  subst hsz
  have hD := hD0.self (sz := s.heap.size)
  generalize hAe : va_A [(h0, .inr (5, [.ref h0_0, .int 0, .ref h0_2, .ref h0_3, .ref h0_4, .ref h0_5, .ref h0_6, .ref h0_7, .ref h0_8, .int h0_9, .ref h0_10, .int h0_11]))] s.heap.size = A at hD ⊢
  have hA : ∀ q : Nat, s.heap.size ≤ q → A q := fun q h => by rw [← hAe]; exact Or.inr h
  have hS : va_S A s.heap s.heap [] := va_S.rf
  have hP : va_P (dC, dI) vwCl [(h0, .inr (5, [.ref h0_0, .int 0, .ref h0_2, .ref h0_3, .ref h0_4, .ref h0_5, .ref h0_6, .ref h0_7, .ref h0_8, .int h0_9, .ref h0_10, .int h0_11]))] s.heap := hP
  have hl := lv_entry ([.ref h0, .int p1]) (n := 2) (Nat.le_of_ble_eq_true rfl)
  rw [lg_entry_eq]
  generalize (lg_sl ([.ref h0, .int p1]) ++ List.replicate (2 - (lg_sl ([.ref h0, .int p1])).length) Slot.unset).toArray = ls at hl ⊢
  have hl : lv_has ls 2 [(0, .ref h0), (1, .int p1)] := hl
  refine lv_iload_n hx hb dX6_end_0 rfl (lv_at hl 1 rfl) ?_
  refine lv_if_lt (tgt := 12) hx hb dX6_end_1 (by decide) (fun cx1 => ?_) (fun cx1 => ?_)
  · refine lv_iconst (v := (-1)) hx hb dX6_end_12 (by decide) ?_
    exact W.iret (v := (-1)) hx hb hr (fun t ht hW => ⟨⟨(-1), (), rfl, (fE_1 cx1), trivial⟩, hS.F ht⟩) hS.2.2 dX6_end_13
  · refine lv_iload_n hx hb dX6_end_4 rfl (lv_at hl 1 rfl) ?_
    refine lv_aload_n hx hb dX6_end_5 rfl (lv_at hl 0 rfl) ?_
    refine va_get (D := (dC, dI)) (ci := 5) (v := .int 0) (C := RX6) (T := TX6) (N := 12) hx hb hts inX6_ hown hK hP 0 rfl rfl 1 (by decide) (hts (.fieldLink RX6 54 "GateWheel" "tapeLength" "I") (List.mem_of_getElem? (i := 1) rfl)) (fun _ h9 => h9) rfl dX6_end_6 ?_
    refine lv_icmp_le (tgt := 14) hx hb dX6_end_9 (by decide) (fun cx2 => ?_) (fun cx2 => ?_)
    · refine lv_aload_n hx hb dX6_end_14 rfl (lv_at hl 0 rfl) ?_
      refine lv_iload_n hx hb dX6_end_15 rfl (lv_at hl 1 rfl) ?_
      refine va_put (D := (dC, dI)) (ci := 5) (v := .int p1) (ty := .int) (C := RX6) (T := TX6) (N := 12) hx hb hts inX6_ tyX6 tyX6_ok nmX6 hown hK hP hD hS 0 rfl rfl 1 (by decide) (hts (.fieldLink RX6 54 "GateWheel" "tapeLength" "I") (List.mem_of_getElem? (i := 1) rfl)) (fun _ h9 => h9) rfl (by decide +kernel) rfl rfl (Nat.le_of_ble_eq_true rfl) dX6_end_16 (fun Hx3 locs hP hD hS => ?_)
      have hP : va_P (dC, dI) vwCl [(h0, .inr (5, [.ref h0_0, .int p1, .ref h0_2, .ref h0_3, .ref h0_4, .ref h0_5, .ref h0_6, .ref h0_7, .ref h0_8, .int h0_9, .ref h0_10, .int h0_11]))] Hx3 := hP
      have hD : va_D A [(h0, .inr (5, [.ref h0_0, .int p1, .ref h0_2, .ref h0_3, .ref h0_4, .ref h0_5, .ref h0_6, .ref h0_7, .ref h0_8, .int h0_9, .ref h0_10, .int h0_11]))] := hD
      refine lv_iload_n hx hb dX6_end_19 rfl (lv_at hl 1 rfl) ?_
      exact W.iret (v := p1) hx hb hr (fun t ht hW => ⟨⟨p1, (), rfl, (fE_3 cx1 cx2), trivial⟩, hS.F ht⟩) hS.2.2 dX6_end_20
    · refine lv_iconst (v := (-1)) hx hb dX6_end_12 (by decide) ?_
      exact W.iret (v := (-1)) hx hb hr (fun t ht hW => ⟨⟨(-1), (), rfl, (fE_2 cx2), trivial⟩, hS.F ht⟩) hS.2.2 dX6_end_13

set_option maxHeartbeats 4000000 in
set_option maxRecDepth 100000 in
theorem c_X6_fault (l : Launch) (dC : Nat → ClassId) (dI : Nat → Nat → Nat) (h0 : Nat) (h1 : Nat) (h0_0 : Nat) (h0_1 : Int32) (h0_3 : Nat) (h0_4 : Nat) (h0_5 : Nat) (h0_6 : Nat) (h0_7 : Nat) (h0_8 : Nat) (h0_9 : Int32) (h0_10 : Nat) (h0_11 : Int32) (h1_2 : Nat) (h1_4 : Int32) (h1_5 : Int32) (h1_6 : Int64) (h1_7 : Int32) (h1_8 : Int32) (h1_9 : Int32) (h1_10 : Int32) (h1_11 : Int32) (h1_12 : Nat) (h1_13 : Nat) (h1_14 : Nat) (h1_15 : Int32) (h1_16 : Nat) (p1 : Int32) (sz : Nat) : Met l yX6_fault wsX6_fault ({ frames := 0, cells := 0, slots := 0, locals := 0 }) (va_Pc [.ref h0, .int p1] (fun U => U.heap.size = sz ∧ va_P (dC, dI) vwCl [(h0, .inr (5, [.ref h0_0, .int h0_1, .ref h1, .ref h0_3, .ref h0_4, .ref h0_5, .ref h0_6, .ref h0_7, .ref h0_8, .int h0_9, .ref h0_10, .int h0_11])), (h1, .inr (2, [.int 0, .int (-1), .ref h1_2, .null, .int h1_4, .int h1_5, .long h1_6, .int h1_7, .int h1_8, .int h1_9, .int h1_10, .int h1_11, .ref h1_12, .ref h1_13, .ref h1_14, .int h1_15, .ref h1_16]))] U.heap ∧ va_K (dC, dI) vwCl [] U ∧ va_D (fun _ => True) [(h0, .inr (5, [.ref h0_0, .int h0_1, .ref h1, .ref h0_3, .ref h0_4, .ref h0_5, .ref h0_6, .ref h0_7, .ref h0_8, .int h0_9, .ref h0_10, .int h0_11])), (h1, .inr (2, [.int 0, .int (-1), .ref h1_2, .null, .int h1_4, .int h1_5, .long h1_6, .int h1_7, .int h1_8, .int h1_9, .int h1_10, .int h1_11, .ref h1_12, .ref h1_13, .ref h1_14, .int h1_15, .ref h1_16]))])) (va_Qi (fun (r : Int32) (_ : Unit) => r = fE p1) (fun (_ : Unit) (_ : State) => True) (va_A [(h0, .inr (5, [.ref h0_0, .int h0_1, .ref h1, .ref h0_3, .ref h0_4, .ref h0_5, .ref h0_6, .ref h0_7, .ref h0_8, .int h0_9, .ref h0_10, .int h0_11])), (h1, .inr (2, [.int 0, .int (-1), .ref h1_2, .null, .int h1_4, .int h1_5, .long h1_6, .int h1_7, .int h1_8, .int h1_9, .int h1_10, .int h1_11, .ref h1_12, .ref h1_13, .ref h1_14, .int h1_15, .ref h1_16]))] sz)) 0 0 (va_A [(h0, .inr (5, [.ref h0_0, .int h0_1, .ref h1, .ref h0_3, .ref h0_4, .ref h0_5, .ref h0_6, .ref h0_7, .ref h0_8, .int h0_9, .ref h0_10, .int h0_11])), (h1, .inr (2, [.int 0, .int (-1), .ref h1_2, .null, .int h1_4, .int h1_5, .long h1_6, .int h1_7, .int h1_8, .int h1_9, .int h1_10, .int h1_11, .ref h1_12, .ref h1_13, .ref h1_14, .int h1_15, .ref h1_16]))] sz) := by
  refine Met.ofW (cc := cX6_fault) (maxL := 2) (ret := (some .int)) (by decide) rfl ?_
  intro p e s m args below meth c s₁ B hml hv
  obtain ⟨rfl, hsz, hP, hK, hD0⟩ := hv
  have hx := B.exec
  have hb := B.bytes
  have hr := B.returns
  have hts := atoms_spec (ws := wsX6_fault) B.pre
  have hown : s.vm.findClass RX6 = some m.cls := findClass_of_methodNamed B.named
  have hlocks := B.notSynchronized
  have inX3_ : ∀ w ∈ wsX30, w ∈ wsX6_fault := fun _ h => List.mem_cons_of_mem _ (List.mem_append_right _ h)
  have inX6_ : ∀ w ∈ wsX60, w ∈ wsX6_fault := fun _ h => List.mem_cons_of_mem _ (List.mem_append_left _ (List.mem_append_right _ h))
  subst hsz
  have hD := hD0.self (sz := s.heap.size)
  generalize hAe : va_A [(h0, .inr (5, [.ref h0_0, .int h0_1, .ref h1, .ref h0_3, .ref h0_4, .ref h0_5, .ref h0_6, .ref h0_7, .ref h0_8, .int h0_9, .ref h0_10, .int h0_11])), (h1, .inr (2, [.int 0, .int (-1), .ref h1_2, .null, .int h1_4, .int h1_5, .long h1_6, .int h1_7, .int h1_8, .int h1_9, .int h1_10, .int h1_11, .ref h1_12, .ref h1_13, .ref h1_14, .int h1_15, .ref h1_16]))] s.heap.size = A at hD ⊢
  have hA : ∀ q : Nat, s.heap.size ≤ q → A q := fun q h => by rw [← hAe]; exact Or.inr h
  have hS : va_S A s.heap s.heap [] := va_S.rf
  have hP : va_P (dC, dI) vwCl [(h0, .inr (5, [.ref h0_0, .int h0_1, .ref h1, .ref h0_3, .ref h0_4, .ref h0_5, .ref h0_6, .ref h0_7, .ref h0_8, .int h0_9, .ref h0_10, .int h0_11])), (h1, .inr (2, [.int 0, .int (-1), .ref h1_2, .null, .int h1_4, .int h1_5, .long h1_6, .int h1_7, .int h1_8, .int h1_9, .int h1_10, .int h1_11, .ref h1_12, .ref h1_13, .ref h1_14, .int h1_15, .ref h1_16]))] s.heap := hP
  have hl := lv_entry ([.ref h0, .int p1]) (n := 2) (Nat.le_of_ble_eq_true rfl)
  rw [lg_entry_eq]
  generalize (lg_sl ([.ref h0, .int p1]) ++ List.replicate (2 - (lg_sl ([.ref h0, .int p1])).length) Slot.unset).toArray = ls at hl ⊢
  have hl : lv_has ls 2 [(0, .ref h0), (1, .int p1)] := hl
  refine lv_iload_n hx hb dX6_fault_0 rfl (lv_at hl 1 rfl) ?_
  by_cases k0 : p1 = 0
  · have kk0 := k0
    refine lv_lookup (off := 27) (tgt := 28) hx hb dX6_fault_1 (by decide) (by rw [k0]; rfl) (by decide) ?_
    refine lv_aload_n hx hb dX6_fault_28 rfl (lv_at hl 0 rfl) ?_
    refine va_get (D := (dC, dI)) (ci := 5) (v := .ref h1) (C := RX6) (T := TX6) (N := 12) hx hb hts inX6_ hown hK hP 0 rfl rfl 2 (by decide) (hts (.fieldLink RX6 16 "GateWheel" "reader" "LGateWheel$Reader;") (List.mem_of_getElem? (i := 1) rfl)) (fun _ h9 => h9) rfl dX6_fault_29 ?_
    refine va_get (D := (dC, dI)) (ci := 2) (v := .int 0) (C := RX3) (T := TX3) (N := 17) hx hb hts inX3_ hown hK hP 1 rfl rfl 0 (by decide) (hts (.fieldLink RX6 76 "GateWheel$Reader" "fault" "I") (List.mem_of_getElem? (i := 2) rfl)) (fun _ h9 => h9) rfl dX6_fault_32 ?_
    exact W.iret (v := 0) hx hb hr (fun t ht hW => ⟨⟨0, (), rfl, (fE_4 k0), trivial⟩, hS.F ht⟩) hS.2.2 dX6_fault_35
  by_cases k1 : p1 = 1
  · have kk1 := k1
    refine lv_lookup (off := 35) (tgt := 36) hx hb dX6_fault_1 (by decide) (by rw [k1]; rfl) (by decide) ?_
    refine lv_aload_n hx hb dX6_fault_36 rfl (lv_at hl 0 rfl) ?_
    refine va_get (D := (dC, dI)) (ci := 5) (v := .ref h1) (C := RX6) (T := TX6) (N := 12) hx hb hts inX6_ hown hK hP 0 rfl rfl 2 (by decide) (hts (.fieldLink RX6 16 "GateWheel" "reader" "LGateWheel$Reader;") (List.mem_of_getElem? (i := 1) rfl)) (fun _ h9 => h9) rfl dX6_fault_37 ?_
    refine va_get (D := (dC, dI)) (ci := 2) (v := .int (-1)) (C := RX3) (T := TX3) (N := 17) hx hb hts inX3_ hown hK hP 1 rfl rfl 1 (by decide) (hts (.fieldLink RX6 79 "GateWheel$Reader" "faultPlace" "I") (List.mem_of_getElem? (i := 3) rfl)) (fun _ h9 => h9) rfl dX6_fault_40 ?_
    exact W.iret (v := (-1)) hx hb hr (fun t ht hW => ⟨⟨(-1), (), rfl, (fE_5 k0), trivial⟩, hS.F ht⟩) hS.2.2 dX6_fault_43
  refine lv_lookup (off := 43) (tgt := 44) hx hb dX6_fault_1 (by decide) ((lv_osw k0 (by decide)).trans ((lv_osw k1 (by decide)).trans rfl)) (by decide) ?_
  refine lv_iconst (v := (-1)) hx hb dX6_fault_44 (by decide) ?_
  exact W.iret (v := (-1)) hx hb hr (fun t ht hW => ⟨⟨(-1), (), rfl, (fE_5 k0), trivial⟩, hS.F ht⟩) hS.2.2 dX6_fault_45

set_option maxHeartbeats 4000000 in
set_option maxRecDepth 100000 in
theorem c_X6_about (l : Launch) (dC : Nat → ClassId) (dI : Nat → Nat → Nat) (h0 : Nat) (h1 : Nat) (h0_0 : Nat) (h0_1 : Int32) (h0_2 : Nat) (h0_4 : Nat) (h0_5 : Nat) (h0_6 : Nat) (h0_7 : Nat) (h0_8 : Nat) (h0_9 : Int32) (h0_10 : Nat) (h1_2 : Nat) (h1_3 : Nat) (h1_4 : Nat) (h1_5 : Nat) (h1_6 : Nat) (h1_7 : Nat) (h1_8 : Nat) (h1_9 : Nat) (h1_10 : Nat) (h1_11 : Nat) (h1_12 : Nat) (p1 : Int32) (sz : Nat) : Met l yX6_about wsX6_about ({ frames := 1, cells := 0, slots := 0, locals := 22 }) (va_Pc [.ref h0, .int p1] (fun U => U.heap.size = sz ∧ va_P (dC, dI) vwCl [(h0, .inr (5, [.ref h0_0, .int h0_1, .ref h0_2, .ref h1, .ref h0_4, .ref h0_5, .ref h0_6, .ref h0_7, .ref h0_8, .int h0_9, .ref h0_10, .int 0])), (h1, .inr (0, [.int 0, .int 0, .ref h1_2, .ref h1_3, .ref h1_4, .ref h1_5, .ref h1_6, .ref h1_7, .ref h1_8, .ref h1_9, .ref h1_10, .ref h1_11, .ref h1_12]))] U.heap ∧ va_K (dC, dI) vwCl [] U ∧ va_D (fun _ => True) [(h0, .inr (5, [.ref h0_0, .int h0_1, .ref h0_2, .ref h1, .ref h0_4, .ref h0_5, .ref h0_6, .ref h0_7, .ref h0_8, .int h0_9, .ref h0_10, .int 0])), (h1, .inr (0, [.int 0, .int 0, .ref h1_2, .ref h1_3, .ref h1_4, .ref h1_5, .ref h1_6, .ref h1_7, .ref h1_8, .ref h1_9, .ref h1_10, .ref h1_11, .ref h1_12]))])) (va_Qi (fun (r : Int32) (_ : Unit) => r = fA p1) (fun (_ : Unit) (_ : State) => True) (va_A [(h0, .inr (5, [.ref h0_0, .int h0_1, .ref h0_2, .ref h1, .ref h0_4, .ref h0_5, .ref h0_6, .ref h0_7, .ref h0_8, .int h0_9, .ref h0_10, .int 0])), (h1, .inr (0, [.int 0, .int 0, .ref h1_2, .ref h1_3, .ref h1_4, .ref h1_5, .ref h1_6, .ref h1_7, .ref h1_8, .ref h1_9, .ref h1_10, .ref h1_11, .ref h1_12]))] sz)) 0 0 (va_A [(h0, .inr (5, [.ref h0_0, .int h0_1, .ref h0_2, .ref h1, .ref h0_4, .ref h0_5, .ref h0_6, .ref h0_7, .ref h0_8, .int h0_9, .ref h0_10, .int 0])), (h1, .inr (0, [.int 0, .int 0, .ref h1_2, .ref h1_3, .ref h1_4, .ref h1_5, .ref h1_6, .ref h1_7, .ref h1_8, .ref h1_9, .ref h1_10, .ref h1_11, .ref h1_12]))] sz) := by
  refine Met.ofW (cc := cX6_about) (maxL := 2) (ret := (some .int)) (by decide) rfl ?_
  intro p e s m args below meth c s₁ B hml hv
  obtain ⟨rfl, hsz, hP, hK, hD0⟩ := hv
  have hx := B.exec
  have hb := B.bytes
  have hr := B.returns
  have hts := atoms_spec (ws := wsX6_about) B.pre
  have hown : s.vm.findClass RX6 = some m.cls := findClass_of_methodNamed B.named
  have hlocks := B.notSynchronized
  have inX0_ : ∀ w ∈ wsX00, w ∈ wsX6_about := fun _ h => List.mem_cons_of_mem _ (List.mem_append_left _ (List.mem_append_right _ h))
  have inX6_ : ∀ w ∈ wsX60, w ∈ wsX6_about := fun _ h => List.mem_cons_of_mem _ (List.mem_append_left _ (List.mem_append_left _ (List.mem_append_right _ h)))
  subst hsz
  have hD := hD0.self (sz := s.heap.size)
  generalize hAe : va_A [(h0, .inr (5, [.ref h0_0, .int h0_1, .ref h0_2, .ref h1, .ref h0_4, .ref h0_5, .ref h0_6, .ref h0_7, .ref h0_8, .int h0_9, .ref h0_10, .int 0])), (h1, .inr (0, [.int 0, .int 0, .ref h1_2, .ref h1_3, .ref h1_4, .ref h1_5, .ref h1_6, .ref h1_7, .ref h1_8, .ref h1_9, .ref h1_10, .ref h1_11, .ref h1_12]))] s.heap.size = A at hD ⊢
  have hA : ∀ q : Nat, s.heap.size ≤ q → A q := fun q h => by rw [← hAe]; exact Or.inr h
  have hS : va_S A s.heap s.heap [] := va_S.rf
  have hP : va_P (dC, dI) vwCl [(h0, .inr (5, [.ref h0_0, .int h0_1, .ref h0_2, .ref h1, .ref h0_4, .ref h0_5, .ref h0_6, .ref h0_7, .ref h0_8, .int h0_9, .ref h0_10, .int 0])), (h1, .inr (0, [.int 0, .int 0, .ref h1_2, .ref h1_3, .ref h1_4, .ref h1_5, .ref h1_6, .ref h1_7, .ref h1_8, .ref h1_9, .ref h1_10, .ref h1_11, .ref h1_12]))] s.heap := hP
  have hl := lv_entry ([.ref h0, .int p1]) (n := 2) (Nat.le_of_ble_eq_true rfl)
  rw [lg_entry_eq]
  generalize (lg_sl ([.ref h0, .int p1]) ++ List.replicate (2 - (lg_sl ([.ref h0, .int p1])).length) Slot.unset).toArray = ls at hl ⊢
  have hl : lv_has ls 2 [(0, .ref h0), (1, .int p1)] := hl
  refine lv_iload_n hx hb dX6_about_0 rfl (lv_at hl 1 rfl) ?_
  by_cases k0 : p1 = 0
  · have kk0 := k0
    refine lv_tableIn (off := 39) (tgt := 40) hx hb dX6_about_1 (by rw [k0]; decide) (by rw [k0]; decide) (by rw [k0]; rfl) (by decide) ?_
    refine lv_aload_n hx hb dX6_about_40 rfl (lv_at hl 0 rfl) ?_
    refine va_get (D := (dC, dI)) (ci := 5) (v := .ref h1) (C := RX6) (T := TX6) (N := 12) hx hb hts inX6_ hown hK hP 0 rfl rfl 3 (by decide) (hts (.fieldLink RX6 23 "GateWheel" "circuit" "LGateWheel$Circuit;") (List.mem_of_getElem? (i := 1) rfl)) (fun _ h9 => h9) rfl dX6_about_41 ?_
    refine va_get (D := (dC, dI)) (ci := 0) (v := .int 0) (C := RX0) (T := TX0) (N := 13) hx hb hts inX0_ hown hK hP 1 rfl rfl 0 (by decide) (hts (.fieldLink RX6 66 "GateWheel$Circuit" "count" "I") (List.mem_of_getElem? (i := 2) rfl)) (fun _ h9 => h9) rfl dX6_about_44 ?_
    exact W.iret (v := 0) hx hb hr (fun t ht hW => ⟨⟨0, (), rfl, (by rw [k0]; decide), trivial⟩, hS.F ht⟩) hS.2.2 dX6_about_47
  by_cases k1 : p1 = 1
  · have kk1 := k1
    refine lv_tableIn (off := 47) (tgt := 48) hx hb dX6_about_1 (by rw [k1]; decide) (by rw [k1]; decide) (by rw [k1]; rfl) (by decide) ?_
    refine lv_aload_n hx hb dX6_about_48 rfl (lv_at hl 0 rfl) ?_
    refine va_get (D := (dC, dI)) (ci := 5) (v := .ref h1) (C := RX6) (T := TX6) (N := 12) hx hb hts inX6_ hown hK hP 0 rfl rfl 3 (by decide) (hts (.fieldLink RX6 23 "GateWheel" "circuit" "LGateWheel$Circuit;") (List.mem_of_getElem? (i := 1) rfl)) (fun _ h9 => h9) rfl dX6_about_49 ?_
    refine va_get (D := (dC, dI)) (ci := 0) (v := .int 0) (C := RX0) (T := TX0) (N := 13) hx hb hts inX0_ hown hK hP 1 rfl rfl 1 (by decide) (hts (.fieldLink RX6 152 "GateWheel$Circuit" "registers" "I") (List.mem_of_getElem? (i := 3) rfl)) (fun _ h9 => h9) rfl dX6_about_52 ?_
    exact W.iret (v := 0) hx hb hr (fun t ht hW => ⟨⟨0, (), rfl, (by rw [k1]; decide), trivial⟩, hS.F ht⟩) hS.2.2 dX6_about_55
  by_cases k2 : p1 = 2
  · have kk2 := k2
    refine lv_tableIn (off := 55) (tgt := 56) hx hb dX6_about_1 (by rw [k2]; decide) (by rw [k2]; decide) (by rw [k2]; rfl) (by decide) ?_
    refine lv_aload_n hx hb dX6_about_56 rfl (lv_at hl 0 rfl) ?_
    refine va_get (D := (dC, dI)) (ci := 5) (v := .int 0) (C := RX6) (T := TX6) (N := 12) hx hb hts inX6_ hown hK hP 0 rfl rfl 11 (by decide) (hts (.fieldLink RX6 69 "GateWheel" "hasWheel" "Z") (List.mem_of_getElem? (i := 4) rfl)) (fun _ h9 => h9) rfl dX6_about_57 ?_
    refine lv_if_eq (tgt := 73) hx hb dX6_about_60 (by decide) (fun _ => ?_) (fun hc => absurd (by decide) hc)
    refine lv_iconst (v := (-1)) hx hb dX6_about_73 (by decide) ?_
    exact W.iret (v := (-1)) hx hb hr (fun t ht hW => ⟨⟨(-1), (), rfl, (by rw [k2]; decide), trivial⟩, hS.F ht⟩) hS.2.2 dX6_about_74
  by_cases k3 : p1 = 3
  · have kk3 := k3
    refine lv_tableIn (off := 74) (tgt := 75) hx hb dX6_about_1 (by rw [k3]; decide) (by rw [k3]; decide) (by rw [k3]; rfl) (by decide) ?_
    refine lv_aload_n hx hb dX6_about_75 rfl (lv_at hl 0 rfl) ?_
    refine va_get (D := (dC, dI)) (ci := 5) (v := .int 0) (C := RX6) (T := TX6) (N := 12) hx hb hts inX6_ hown hK hP 0 rfl rfl 11 (by decide) (hts (.fieldLink RX6 69 "GateWheel" "hasWheel" "Z") (List.mem_of_getElem? (i := 4) rfl)) (fun _ h9 => h9) rfl dX6_about_76 ?_
    refine lv_if_eq (tgt := 92) hx hb dX6_about_79 (by decide) (fun _ => ?_) (fun hc => absurd (by decide) hc)
    refine lv_iconst (v := (-1)) hx hb dX6_about_92 (by decide) ?_
    exact W.iret (v := (-1)) hx hb hr (fun t ht hW => ⟨⟨(-1), (), rfl, (by rw [k3]; decide), trivial⟩, hS.F ht⟩) hS.2.2 dX6_about_93
  by_cases k4 : p1 = 4
  · have kk4 := k4
    refine lv_tableIn (off := 93) (tgt := 94) hx hb dX6_about_1 (by rw [k4]; decide) (by rw [k4]; decide) (by rw [k4]; rfl) (by decide) ?_
    refine lv_aload_n hx hb dX6_about_94 rfl (lv_at hl 0 rfl) ?_
    refine va_get (D := (dC, dI)) (ci := 5) (v := .int 0) (C := RX6) (T := TX6) (N := 12) hx hb hts inX6_ hown hK hP 0 rfl rfl 11 (by decide) (hts (.fieldLink RX6 69 "GateWheel" "hasWheel" "Z") (List.mem_of_getElem? (i := 4) rfl)) (fun _ h9 => h9) rfl dX6_about_95 ?_
    refine lv_if_eq (tgt := 111) hx hb dX6_about_98 (by decide) (fun _ => ?_) (fun hc => absurd (by decide) hc)
    refine lv_iconst (v := (-1)) hx hb dX6_about_111 (by decide) ?_
    exact W.iret (v := (-1)) hx hb hr (fun t ht hW => ⟨⟨(-1), (), rfl, (by rw [k4]; decide), trivial⟩, hS.F ht⟩) hS.2.2 dX6_about_112
  by_cases k5 : p1 = 5
  · have kk5 := k5
    refine lv_tableIn (off := 112) (tgt := 113) hx hb dX6_about_1 (by rw [k5]; decide) (by rw [k5]; decide) (by rw [k5]; rfl) (by decide) ?_
    refine lv_aload_n hx hb dX6_about_113 rfl (lv_at hl 0 rfl) ?_
    have hPc := hP.sub (ws' := [(h0, .inr (5, [.ref h0_0, .int h0_1, .ref h0_2, .ref h1, .ref h0_4, .ref h0_5, .ref h0_6, .ref h0_7, .ref h0_8, .int h0_9, .ref h0_10, .int 0])), (h1, .inr (0, [.int 0, .int 0, .ref h1_2, .ref h1_3, .ref h1_4, .ref h1_5, .ref h1_6, .ref h1_7, .ref h1_8, .ref h1_9, .ref h1_10, .ref h1_11, .ref h1_12]))]) [0, 1] rfl
    have hDc := hD.sub (ws' := [(h0, .inr (5, [.ref h0_0, .int h0_1, .ref h0_2, .ref h1, .ref h0_4, .ref h0_5, .ref h0_6, .ref h0_7, .ref h0_8, .int h0_9, .ref h0_10, .int 0])), (h1, .inr (0, [.int 0, .int 0, .ref h1_2, .ref h1_3, .ref h1_4, .ref h1_5, .ref h1_6, .ref h1_7, .ref h1_8, .ref h1_9, .ref h1_10, .ref h1_11, .ref h1_12]))]) [0, 1] (by decide) rfl
    have hKc := hK.sub (tys' := []) [] rfl
    have hFc := va_free (wc := [(h0, .inr (5, [.ref h0_0, .int h0_1, .ref h0_2, .ref h1, .ref h0_4, .ref h0_5, .ref h0_6, .ref h0_7, .ref h0_8, .int h0_9, .ref h0_10, .int 0])), (h1, .inr (0, [.int 0, .int 0, .ref h1_2, .ref h1_3, .ref h1_4, .ref h1_5, .ref h1_6, .ref h1_7, .ref h1_8, .ref h1_9, .ref h1_10, .ref h1_11, .ref h1_12]))]) hD hS hA [0, 1] rfl
    refine va_calli (va_runV (As := []) (rest := []) ⟨hx, hb, hml, hown, hts⟩ (c_X6_countFree l dC dI h0 h1 h0_0 h0_1 h0_2 h0_4 h0_5 h0_6 h0_7 h0_8 h0_9 h0_10 0 0 h1_2 h1_3 h1_4 h1_5 h1_6 h1_7 h1_8 h1_9 h1_10 h1_11 h1_12 s.heap.size) (cwV 0 hts gX6_about_X6_countFree rfl rfl rfl (by decide +kernel) ⟨Nat.le_of_ble_eq_true rfl, Nat.le_of_ble_eq_true rfl⟩) ⟨fun a U g mk q => by obtain ⟨q0, q1, qP, qK, qD⟩ := q; exact ⟨q0, q1, qP, va_K.moved (u := U) (U := U.calling g mk a) (Vm.Alike.refl U.vm) qK, qD⟩, va_recv hKc hPc (ci := 5) (q0 := 0) rfl rfl, fun U hU hW => ⟨rfl, by rw [hU], by rw [hU]; exact hPc, va_K.moved hW.alike hKc, hDc.weaken (fun _ _ _ _ => trivial)⟩⟩ rfl rfl hl.1 rfl (lv_room (Nat.le_of_ble_eq_true rfl)) dX6_about_114 ⟨Nat.le_of_ble_eq_true rfl, Nat.le_of_ble_eq_true rfl⟩) hS (fun q _ h => hFc q h) hFc (fun rx2 u t Hx1 locs ht hvm hw hB hz1 hk1 hS => ?_)
    obtain ⟨hP1, hK1, hD1⟩ := hB
    rw [ht] at hP1
    have hK1 := va_K.moved hvm.symm hK1
    obtain ⟨hP, hD⟩ := va_join (wr := []) (w1 := [(h0, .inr (5, [.ref h0_0, .int h0_1, .ref h0_2, .ref h1, .ref h0_4, .ref h0_5, .ref h0_6, .ref h0_7, .ref h0_8, .int h0_9, .ref h0_10, .int 0])), (h1, .inr (0, [.int 0, .int 0, .ref h1_2, .ref h1_3, .ref h1_4, .ref h1_5, .ref h1_6, .ref h1_7, .ref h1_8, .ref h1_9, .ref h1_10, .ref h1_11, .ref h1_12]))]) hP hD [0, 1] [] rfl rfl (by decide) (by decide) hk1 hFc hP1 hD1
    have hK := (hK.sub (tys' := []) [] rfl).app hK1
    have hP : va_P (dC, dI) vwCl [(h0, .inr (5, [.ref h0_0, .int h0_1, .ref h0_2, .ref h1, .ref h0_4, .ref h0_5, .ref h0_6, .ref h0_7, .ref h0_8, .int h0_9, .ref h0_10, .int 0])), (h1, .inr (0, [.int 0, .int 0, .ref h1_2, .ref h1_3, .ref h1_4, .ref h1_5, .ref h1_6, .ref h1_7, .ref h1_8, .ref h1_9, .ref h1_10, .ref h1_11, .ref h1_12]))] Hx1 := hP
    have hD : va_D A [(h0, .inr (5, [.ref h0_0, .int h0_1, .ref h0_2, .ref h1, .ref h0_4, .ref h0_5, .ref h0_6, .ref h0_7, .ref h0_8, .int h0_9, .ref h0_10, .int 0])), (h1, .inr (0, [.int 0, .int 0, .ref h1_2, .ref h1_3, .ref h1_4, .ref h1_5, .ref h1_6, .ref h1_7, .ref h1_8, .ref h1_9, .ref h1_10, .ref h1_11, .ref h1_12]))] := hD
    have hK : va_K (dC, dI) vwCl [] s := hK
    obtain rfl : rx2 = 0 := hw
    exact W.iret (v := 0) hx hb hr (fun t ht hW => ⟨⟨0, (), rfl, (by rw [k5]; decide), trivial⟩, hS.F ht⟩) hS.2.2 dX6_about_117
  have kd : p1.toInt < 0 ∨ 5 < p1.toInt := by
    have n0 : ¬ p1.toInt = 0 := lv_neT k0 (by decide)
    have n1 : ¬ p1.toInt = 1 := lv_neT k1 (by decide)
    have n2 : ¬ p1.toInt = 2 := lv_neT k2 (by decide)
    have n3 : ¬ p1.toInt = 3 := lv_neT k3 (by decide)
    have n4 : ¬ p1.toInt = 4 := lv_neT k4 (by decide)
    have n5 : ¬ p1.toInt = 5 := lv_neT k5 (by decide)
    omega
  refine lv_tableOut (tgt := 118) hx hb dX6_about_1 kd (by decide) ?_
  refine lv_iconst (v := (-1)) hx hb dX6_about_118 (by decide) ?_
  exact W.iret (v := (-1)) hx hb hr (fun t ht hW => ⟨⟨(-1), (), rfl, (fA_n k0 k1 k5), trivial⟩, hS.F ht⟩) hS.2.2 dX6_about_119

set_option maxHeartbeats 4000000 in
set_option maxRecDepth 100000 in
theorem c_X6_addToTape (l : Launch) (dC : Nat → ClassId) (dI : Nat → Nat → Nat) (h0 : Nat) (a1 : Nat) (kk : Nat) (h0_2 : Nat) (h0_3 : Nat) (h0_4 : Nat) (h0_5 : Nat) (h0_6 : Nat) (h0_7 : Nat) (h0_8 : Nat) (h0_9 : Int32) (h0_10 : Nat) (h0_11 : Int32) (p1 : Int32) (yb : ClassId) (f1 : Nat → Int32) (sz : Nat) (hy_k : kk + 4 ≤ 2000) : Met l yX6_addToTape wsX6_addToTape ({ frames := 0, cells := 0, slots := 0, locals := 0 }) (va_Pc [.ref h0, .int p1] (fun U => U.heap.size = sz ∧ va_P (dC, dI) vwCl [(h0, .inr (5, [.ref a1, .int (nI kk), .ref h0_2, .ref h0_3, .ref h0_4, .ref h0_5, .ref h0_6, .ref h0_7, .ref h0_8, .int h0_9, .ref h0_10, .int h0_11])), (a1, .inl (yb, 2000, .inl f1))] U.heap ∧ va_K (dC, dI) vwCl [(yb, .byte)] U ∧ va_D (fun _ => True) [(h0, .inr (5, [.ref a1, .int (nI kk), .ref h0_2, .ref h0_3, .ref h0_4, .ref h0_5, .ref h0_6, .ref h0_7, .ref h0_8, .int h0_9, .ref h0_10, .int h0_11])), (a1, .inl (yb, 2000, .inl f1))])) (va_Qv (fun (_ : Unit) => True) (fun (_ : Unit) (t : State) => ∃ (f2 : Nat → Int32), va_P (dC, dI) vwCl [(h0, .inr (5, [.ref a1, .int (nI (kk + 4)), .ref h0_2, .ref h0_3, .ref h0_4, .ref h0_5, .ref h0_6, .ref h0_7, .ref h0_8, .int h0_9, .ref h0_10, .int h0_11])), (a1, .inl (yb, 2000, .inl f2))] t.heap ∧ va_K (dC, dI) vwCl [(yb, .byte)] t ∧ va_D (va_A [(h0, .inr (5, [.ref a1, .int (nI kk), .ref h0_2, .ref h0_3, .ref h0_4, .ref h0_5, .ref h0_6, .ref h0_7, .ref h0_8, .int h0_9, .ref h0_10, .int h0_11])), (a1, .inl (yb, 2000, .inl f1))] sz) [(h0, .inr (5, [.ref a1, .int (nI (kk + 4)), .ref h0_2, .ref h0_3, .ref h0_4, .ref h0_5, .ref h0_6, .ref h0_7, .ref h0_8, .int h0_9, .ref h0_10, .int h0_11])), (a1, .inl (yb, 2000, .inl f2))]) (va_A [(h0, .inr (5, [.ref a1, .int (nI kk), .ref h0_2, .ref h0_3, .ref h0_4, .ref h0_5, .ref h0_6, .ref h0_7, .ref h0_8, .int h0_9, .ref h0_10, .int h0_11])), (a1, .inl (yb, 2000, .inl f1))] sz)) 0 0 (va_A [(h0, .inr (5, [.ref a1, .int (nI kk), .ref h0_2, .ref h0_3, .ref h0_4, .ref h0_5, .ref h0_6, .ref h0_7, .ref h0_8, .int h0_9, .ref h0_10, .int h0_11])), (a1, .inl (yb, 2000, .inl f1))] sz) := by
  refine Met.ofW (cc := cX6_addToTape) (maxL := 3) (ret := none) (by decide) rfl ?_
  intro p e s m args below meth c s₁ B hml hv
  obtain ⟨rfl, hsz, hP, hK, hD0⟩ := hv
  have hx := B.exec
  have hb := B.bytes
  have hr := B.returns
  have hts := atoms_spec (ws := wsX6_addToTape) B.pre
  have hown : s.vm.findClass RX6 = some m.cls := findClass_of_methodNamed B.named
  have hlocks := B.notSynchronized
  have inX6_ : ∀ w ∈ wsX60, w ∈ wsX6_addToTape := fun _ h => List.mem_cons_of_mem _ (List.mem_append_right _ h)
  subst hsz
  have hD := hD0.self (sz := s.heap.size)
  generalize hAe : va_A [(h0, .inr (5, [.ref a1, .int (nI kk), .ref h0_2, .ref h0_3, .ref h0_4, .ref h0_5, .ref h0_6, .ref h0_7, .ref h0_8, .int h0_9, .ref h0_10, .int h0_11])), (a1, .inl (yb, 2000, .inl f1))] s.heap.size = A at hD ⊢
  have hA : ∀ q : Nat, s.heap.size ≤ q → A q := fun q h => by rw [← hAe]; exact Or.inr h
  have hS : va_S A s.heap s.heap [] := va_S.rf
  have hP : va_P (dC, dI) vwCl [(h0, .inr (5, [.ref a1, .int (nI kk), .ref h0_2, .ref h0_3, .ref h0_4, .ref h0_5, .ref h0_6, .ref h0_7, .ref h0_8, .int h0_9, .ref h0_10, .int h0_11])), (a1, .inl (yb, 2000, .inl f1))] s.heap := hP
  have hl := lv_entry ([.ref h0, .int p1]) (n := 3) (Nat.le_of_ble_eq_true rfl)
  rw [lg_entry_eq]
  generalize (lg_sl ([.ref h0, .int p1]) ++ List.replicate (3 - (lg_sl ([.ref h0, .int p1])).length) Slot.unset).toArray = ls at hl ⊢
  have hl : lv_has ls 3 [(0, .ref h0), (1, .int p1)] := hl
  refine lv_bipush (v := 24) hx hb dX6_addToTape_0 (by decide) ?_
  refine lv_istore_n (lv' := [(2, .int 24), (0, .ref h0), (1, .int p1)]) hx hb dX6_addToTape_2 rfl hl (by decide) rfl (fun ls hl => ?_)
  refine lv_iload_n hx hb dX6_addToTape_3 rfl (lv_at hl 0 rfl) ?_
  refine lv_if_lt (tgt := 46) hx hb dX6_addToTape_4 (by decide) (fun hc => absurd hc (by decide)) (fun _ => ?_)
  refine lv_aload_n hx hb dX6_addToTape_7 rfl (lv_at hl 1 rfl) ?_
  refine va_get (D := (dC, dI)) (ci := 5) (v := .int (nI kk)) (C := RX6) (T := TX6) (N := 12) hx hb hts inX6_ hown hK hP 0 rfl rfl 1 (by decide) (hts (.fieldLink RX6 54 "GateWheel" "tapeLength" "I") (List.mem_of_getElem? (i := 1) rfl)) (fun _ h9 => h9) rfl dX6_addToTape_8 ?_
  refine lv_sipush (v := 2000) hx hb dX6_addToTape_11 (by decide) ?_
  refine lv_icmp_ge (tgt := 46) hx hb dX6_addToTape_14 (by decide) (fun hc => absurd hc (nI_ge (a := kk) (b := 2000) (by omega) (by omega))) (fun _ => ?_)
  refine lv_aload_n hx hb dX6_addToTape_17 rfl (lv_at hl 1 rfl) ?_
  refine va_get (D := (dC, dI)) (ci := 5) (v := .ref a1) (C := RX6) (T := TX6) (N := 12) hx hb hts inX6_ hown hK hP 0 rfl rfl 0 (by decide) (hts (.fieldLink RX6 9 "GateWheel" "tape" "[B") (List.mem_of_getElem? (i := 2) rfl)) (fun _ h9 => h9) rfl dX6_addToTape_18 ?_
  refine lv_aload_n hx hb dX6_addToTape_21 rfl (lv_at hl 1 rfl) ?_
  refine va_get (D := (dC, dI)) (ci := 5) (v := .int (nI kk)) (C := RX6) (T := TX6) (N := 12) hx hb hts inX6_ hown hK hP 0 rfl rfl 1 (by decide) (hts (.fieldLink RX6 54 "GateWheel" "tapeLength" "I") (List.mem_of_getElem? (i := 1) rfl)) (fun _ h9 => h9) rfl dX6_addToTape_22 ?_
  refine lv_iload_n hx hb dX6_addToTape_25 rfl (lv_at hl 2 rfl) ?_
  refine lv_iload_n hx hb dX6_addToTape_26 rfl (lv_at hl 0 rfl) ?_
  refine lv_iushr hx hb dX6_addToTape_27 rfl ?_
  refine lv_topi (fun zx1 ezx1 => ?_)
  refine lv_i2b hx hb dX6_addToTape_28 rfl ?_
  refine lv_topi (fun zx2 ezx2 => ?_)
  refine va_bast hx hb hK hP hD hS 1 0 rfl rfl (vp_in_nI (by omega) (by omega)) dX6_addToTape_29 (fun Hx3 locs hP hD hS => ?_)
  have hP : va_P (dC, dI) vwCl [(h0, .inr (5, [.ref a1, .int (nI kk), .ref h0_2, .ref h0_3, .ref h0_4, .ref h0_5, .ref h0_6, .ref h0_7, .ref h0_8, .int h0_9, .ref h0_10, .int h0_11])), (a1, .inl (yb, 2000, .inl (upd f1 (nI kk : Int32).toNatClampNeg (vp_nar .byte zx2))))] Hx3 := hP
  have hD : va_D A [(h0, .inr (5, [.ref a1, .int (nI kk), .ref h0_2, .ref h0_3, .ref h0_4, .ref h0_5, .ref h0_6, .ref h0_7, .ref h0_8, .int h0_9, .ref h0_10, .int h0_11])), (a1, .inl (yb, 2000, .inl (upd f1 (nI kk : Int32).toNatClampNeg (vp_nar .byte zx2))))] := hD
  generalize (upd f1 (nI kk : Int32).toNatClampNeg (vp_nar .byte zx2)) = fx4 at hP hD
  refine lv_aload_n hx hb dX6_addToTape_30 rfl (lv_at hl 1 rfl) ?_
  refine lv_dup hx hb dX6_addToTape_31 rfl ?_
  refine va_get (D := (dC, dI)) (ci := 5) (v := .int (nI kk)) (C := RX6) (T := TX6) (N := 12) hx hb hts inX6_ hown hK hP 0 rfl rfl 1 (by decide) (hts (.fieldLink RX6 54 "GateWheel" "tapeLength" "I") (List.mem_of_getElem? (i := 1) rfl)) (fun _ h9 => h9) rfl dX6_addToTape_32 ?_
  refine lv_iconst (v := 1) hx hb dX6_addToTape_35 (by decide) ?_
  refine lv_iadd hx hb dX6_addToTape_36 ?_
  refine lv_topi (fun zx5 ezx5 => ?_)
  obtain rfl : zx5 = nI (kk + 1) := by rw [ezx5]; exact (nI_add kk 1)
  refine va_put (D := (dC, dI)) (ci := 5) (v := .int (nI (kk + 1))) (ty := .int) (C := RX6) (T := TX6) (N := 12) hx hb hts inX6_ tyX6 tyX6_ok nmX6 hown hK hP hD hS 0 rfl rfl 1 (by decide) (hts (.fieldLink RX6 54 "GateWheel" "tapeLength" "I") (List.mem_of_getElem? (i := 1) rfl)) (fun _ h9 => h9) rfl (by decide +kernel) rfl rfl (Nat.le_of_ble_eq_true rfl) dX6_addToTape_37 (fun Hx6 locs hP hD hS => ?_)
  have hP : va_P (dC, dI) vwCl [(h0, .inr (5, [.ref a1, .int (nI (kk + 1)), .ref h0_2, .ref h0_3, .ref h0_4, .ref h0_5, .ref h0_6, .ref h0_7, .ref h0_8, .int h0_9, .ref h0_10, .int h0_11])), (a1, .inl (yb, 2000, .inl fx4))] Hx6 := hP
  have hD : va_D A [(h0, .inr (5, [.ref a1, .int (nI (kk + 1)), .ref h0_2, .ref h0_3, .ref h0_4, .ref h0_5, .ref h0_6, .ref h0_7, .ref h0_8, .int h0_9, .ref h0_10, .int h0_11])), (a1, .inl (yb, 2000, .inl fx4))] := hD
  refine lv_iinc (v := 16) (lv' := [(2, .int 16), (0, .ref h0), (1, .int p1)]) hx hb dX6_addToTape_40 hl (k := 0) rfl (by decide) (by decide) rfl (fun ls hl => ?_)
  refine lv_goto (tgt := 3) hx hb dX6_addToTape_43 (by decide) ?_
  refine lv_iload_n hx hb dX6_addToTape_3 rfl (lv_at hl 0 rfl) ?_
  refine lv_if_lt (tgt := 46) hx hb dX6_addToTape_4 (by decide) (fun hc => absurd hc (by decide)) (fun _ => ?_)
  refine lv_aload_n hx hb dX6_addToTape_7 rfl (lv_at hl 1 rfl) ?_
  refine va_get (D := (dC, dI)) (ci := 5) (v := .int (nI (kk + 1))) (C := RX6) (T := TX6) (N := 12) hx hb hts inX6_ hown hK hP 0 rfl rfl 1 (by decide) (hts (.fieldLink RX6 54 "GateWheel" "tapeLength" "I") (List.mem_of_getElem? (i := 1) rfl)) (fun _ h9 => h9) rfl dX6_addToTape_8 ?_
  refine lv_sipush (v := 2000) hx hb dX6_addToTape_11 (by decide) ?_
  refine lv_icmp_ge (tgt := 46) hx hb dX6_addToTape_14 (by decide) (fun hc => absurd hc (nI_ge (a := (kk + 1)) (b := 2000) (by omega) (by omega))) (fun _ => ?_)
  refine lv_aload_n hx hb dX6_addToTape_17 rfl (lv_at hl 1 rfl) ?_
  refine va_get (D := (dC, dI)) (ci := 5) (v := .ref a1) (C := RX6) (T := TX6) (N := 12) hx hb hts inX6_ hown hK hP 0 rfl rfl 0 (by decide) (hts (.fieldLink RX6 9 "GateWheel" "tape" "[B") (List.mem_of_getElem? (i := 2) rfl)) (fun _ h9 => h9) rfl dX6_addToTape_18 ?_
  refine lv_aload_n hx hb dX6_addToTape_21 rfl (lv_at hl 1 rfl) ?_
  refine va_get (D := (dC, dI)) (ci := 5) (v := .int (nI (kk + 1))) (C := RX6) (T := TX6) (N := 12) hx hb hts inX6_ hown hK hP 0 rfl rfl 1 (by decide) (hts (.fieldLink RX6 54 "GateWheel" "tapeLength" "I") (List.mem_of_getElem? (i := 1) rfl)) (fun _ h9 => h9) rfl dX6_addToTape_22 ?_
  refine lv_iload_n hx hb dX6_addToTape_25 rfl (lv_at hl 2 rfl) ?_
  refine lv_iload_n hx hb dX6_addToTape_26 rfl (lv_at hl 0 rfl) ?_
  refine lv_iushr hx hb dX6_addToTape_27 rfl ?_
  refine lv_topi (fun zx7 ezx7 => ?_)
  refine lv_i2b hx hb dX6_addToTape_28 rfl ?_
  refine lv_topi (fun zx8 ezx8 => ?_)
  refine va_bast hx hb hK hP hD hS 1 0 rfl rfl (vp_in_nI (by omega) (by omega)) dX6_addToTape_29 (fun Hx9 locs hP hD hS => ?_)
  have hP : va_P (dC, dI) vwCl [(h0, .inr (5, [.ref a1, .int (nI (kk + 1)), .ref h0_2, .ref h0_3, .ref h0_4, .ref h0_5, .ref h0_6, .ref h0_7, .ref h0_8, .int h0_9, .ref h0_10, .int h0_11])), (a1, .inl (yb, 2000, .inl (upd fx4 (nI (kk + 1) : Int32).toNatClampNeg (vp_nar .byte zx8))))] Hx9 := hP
  have hD : va_D A [(h0, .inr (5, [.ref a1, .int (nI (kk + 1)), .ref h0_2, .ref h0_3, .ref h0_4, .ref h0_5, .ref h0_6, .ref h0_7, .ref h0_8, .int h0_9, .ref h0_10, .int h0_11])), (a1, .inl (yb, 2000, .inl (upd fx4 (nI (kk + 1) : Int32).toNatClampNeg (vp_nar .byte zx8))))] := hD
  generalize (upd fx4 (nI (kk + 1) : Int32).toNatClampNeg (vp_nar .byte zx8)) = fx10 at hP hD
  refine lv_aload_n hx hb dX6_addToTape_30 rfl (lv_at hl 1 rfl) ?_
  refine lv_dup hx hb dX6_addToTape_31 rfl ?_
  refine va_get (D := (dC, dI)) (ci := 5) (v := .int (nI (kk + 1))) (C := RX6) (T := TX6) (N := 12) hx hb hts inX6_ hown hK hP 0 rfl rfl 1 (by decide) (hts (.fieldLink RX6 54 "GateWheel" "tapeLength" "I") (List.mem_of_getElem? (i := 1) rfl)) (fun _ h9 => h9) rfl dX6_addToTape_32 ?_
  refine lv_iconst (v := 1) hx hb dX6_addToTape_35 (by decide) ?_
  refine lv_iadd hx hb dX6_addToTape_36 ?_
  refine lv_topi (fun zx11 ezx11 => ?_)
  obtain rfl : zx11 = nI (kk + 2) := by rw [ezx11]; exact (nI_add (kk + 1) 1)
  refine va_put (D := (dC, dI)) (ci := 5) (v := .int (nI (kk + 2))) (ty := .int) (C := RX6) (T := TX6) (N := 12) hx hb hts inX6_ tyX6 tyX6_ok nmX6 hown hK hP hD hS 0 rfl rfl 1 (by decide) (hts (.fieldLink RX6 54 "GateWheel" "tapeLength" "I") (List.mem_of_getElem? (i := 1) rfl)) (fun _ h9 => h9) rfl (by decide +kernel) rfl rfl (Nat.le_of_ble_eq_true rfl) dX6_addToTape_37 (fun Hx12 locs hP hD hS => ?_)
  have hP : va_P (dC, dI) vwCl [(h0, .inr (5, [.ref a1, .int (nI (kk + 2)), .ref h0_2, .ref h0_3, .ref h0_4, .ref h0_5, .ref h0_6, .ref h0_7, .ref h0_8, .int h0_9, .ref h0_10, .int h0_11])), (a1, .inl (yb, 2000, .inl fx10))] Hx12 := hP
  have hD : va_D A [(h0, .inr (5, [.ref a1, .int (nI (kk + 2)), .ref h0_2, .ref h0_3, .ref h0_4, .ref h0_5, .ref h0_6, .ref h0_7, .ref h0_8, .int h0_9, .ref h0_10, .int h0_11])), (a1, .inl (yb, 2000, .inl fx10))] := hD
  refine lv_iinc (v := 8) (lv' := [(2, .int 8), (0, .ref h0), (1, .int p1)]) hx hb dX6_addToTape_40 hl (k := 0) rfl (by decide) (by decide) rfl (fun ls hl => ?_)
  refine lv_goto (tgt := 3) hx hb dX6_addToTape_43 (by decide) ?_
  refine lv_iload_n hx hb dX6_addToTape_3 rfl (lv_at hl 0 rfl) ?_
  refine lv_if_lt (tgt := 46) hx hb dX6_addToTape_4 (by decide) (fun hc => absurd hc (by decide)) (fun _ => ?_)
  refine lv_aload_n hx hb dX6_addToTape_7 rfl (lv_at hl 1 rfl) ?_
  refine va_get (D := (dC, dI)) (ci := 5) (v := .int (nI (kk + 2))) (C := RX6) (T := TX6) (N := 12) hx hb hts inX6_ hown hK hP 0 rfl rfl 1 (by decide) (hts (.fieldLink RX6 54 "GateWheel" "tapeLength" "I") (List.mem_of_getElem? (i := 1) rfl)) (fun _ h9 => h9) rfl dX6_addToTape_8 ?_
  refine lv_sipush (v := 2000) hx hb dX6_addToTape_11 (by decide) ?_
  refine lv_icmp_ge (tgt := 46) hx hb dX6_addToTape_14 (by decide) (fun hc => absurd hc (nI_ge (a := (kk + 2)) (b := 2000) (by omega) (by omega))) (fun _ => ?_)
  refine lv_aload_n hx hb dX6_addToTape_17 rfl (lv_at hl 1 rfl) ?_
  refine va_get (D := (dC, dI)) (ci := 5) (v := .ref a1) (C := RX6) (T := TX6) (N := 12) hx hb hts inX6_ hown hK hP 0 rfl rfl 0 (by decide) (hts (.fieldLink RX6 9 "GateWheel" "tape" "[B") (List.mem_of_getElem? (i := 2) rfl)) (fun _ h9 => h9) rfl dX6_addToTape_18 ?_
  refine lv_aload_n hx hb dX6_addToTape_21 rfl (lv_at hl 1 rfl) ?_
  refine va_get (D := (dC, dI)) (ci := 5) (v := .int (nI (kk + 2))) (C := RX6) (T := TX6) (N := 12) hx hb hts inX6_ hown hK hP 0 rfl rfl 1 (by decide) (hts (.fieldLink RX6 54 "GateWheel" "tapeLength" "I") (List.mem_of_getElem? (i := 1) rfl)) (fun _ h9 => h9) rfl dX6_addToTape_22 ?_
  refine lv_iload_n hx hb dX6_addToTape_25 rfl (lv_at hl 2 rfl) ?_
  refine lv_iload_n hx hb dX6_addToTape_26 rfl (lv_at hl 0 rfl) ?_
  refine lv_iushr hx hb dX6_addToTape_27 rfl ?_
  refine lv_topi (fun zx13 ezx13 => ?_)
  refine lv_i2b hx hb dX6_addToTape_28 rfl ?_
  refine lv_topi (fun zx14 ezx14 => ?_)
  refine va_bast hx hb hK hP hD hS 1 0 rfl rfl (vp_in_nI (by omega) (by omega)) dX6_addToTape_29 (fun Hx15 locs hP hD hS => ?_)
  have hP : va_P (dC, dI) vwCl [(h0, .inr (5, [.ref a1, .int (nI (kk + 2)), .ref h0_2, .ref h0_3, .ref h0_4, .ref h0_5, .ref h0_6, .ref h0_7, .ref h0_8, .int h0_9, .ref h0_10, .int h0_11])), (a1, .inl (yb, 2000, .inl (upd fx10 (nI (kk + 2) : Int32).toNatClampNeg (vp_nar .byte zx14))))] Hx15 := hP
  have hD : va_D A [(h0, .inr (5, [.ref a1, .int (nI (kk + 2)), .ref h0_2, .ref h0_3, .ref h0_4, .ref h0_5, .ref h0_6, .ref h0_7, .ref h0_8, .int h0_9, .ref h0_10, .int h0_11])), (a1, .inl (yb, 2000, .inl (upd fx10 (nI (kk + 2) : Int32).toNatClampNeg (vp_nar .byte zx14))))] := hD
  generalize (upd fx10 (nI (kk + 2) : Int32).toNatClampNeg (vp_nar .byte zx14)) = fx16 at hP hD
  refine lv_aload_n hx hb dX6_addToTape_30 rfl (lv_at hl 1 rfl) ?_
  refine lv_dup hx hb dX6_addToTape_31 rfl ?_
  refine va_get (D := (dC, dI)) (ci := 5) (v := .int (nI (kk + 2))) (C := RX6) (T := TX6) (N := 12) hx hb hts inX6_ hown hK hP 0 rfl rfl 1 (by decide) (hts (.fieldLink RX6 54 "GateWheel" "tapeLength" "I") (List.mem_of_getElem? (i := 1) rfl)) (fun _ h9 => h9) rfl dX6_addToTape_32 ?_
  refine lv_iconst (v := 1) hx hb dX6_addToTape_35 (by decide) ?_
  refine lv_iadd hx hb dX6_addToTape_36 ?_
  refine lv_topi (fun zx17 ezx17 => ?_)
  obtain rfl : zx17 = nI (kk + 3) := by rw [ezx17]; exact (nI_add (kk + 2) 1)
  refine va_put (D := (dC, dI)) (ci := 5) (v := .int (nI (kk + 3))) (ty := .int) (C := RX6) (T := TX6) (N := 12) hx hb hts inX6_ tyX6 tyX6_ok nmX6 hown hK hP hD hS 0 rfl rfl 1 (by decide) (hts (.fieldLink RX6 54 "GateWheel" "tapeLength" "I") (List.mem_of_getElem? (i := 1) rfl)) (fun _ h9 => h9) rfl (by decide +kernel) rfl rfl (Nat.le_of_ble_eq_true rfl) dX6_addToTape_37 (fun Hx18 locs hP hD hS => ?_)
  have hP : va_P (dC, dI) vwCl [(h0, .inr (5, [.ref a1, .int (nI (kk + 3)), .ref h0_2, .ref h0_3, .ref h0_4, .ref h0_5, .ref h0_6, .ref h0_7, .ref h0_8, .int h0_9, .ref h0_10, .int h0_11])), (a1, .inl (yb, 2000, .inl fx16))] Hx18 := hP
  have hD : va_D A [(h0, .inr (5, [.ref a1, .int (nI (kk + 3)), .ref h0_2, .ref h0_3, .ref h0_4, .ref h0_5, .ref h0_6, .ref h0_7, .ref h0_8, .int h0_9, .ref h0_10, .int h0_11])), (a1, .inl (yb, 2000, .inl fx16))] := hD
  refine lv_iinc (v := 0) (lv' := [(2, .int 0), (0, .ref h0), (1, .int p1)]) hx hb dX6_addToTape_40 hl (k := 0) rfl (by decide) (by decide) rfl (fun ls hl => ?_)
  refine lv_goto (tgt := 3) hx hb dX6_addToTape_43 (by decide) ?_
  refine lv_iload_n hx hb dX6_addToTape_3 rfl (lv_at hl 0 rfl) ?_
  refine lv_if_lt (tgt := 46) hx hb dX6_addToTape_4 (by decide) (fun hc => absurd hc (by decide)) (fun _ => ?_)
  refine lv_aload_n hx hb dX6_addToTape_7 rfl (lv_at hl 1 rfl) ?_
  refine va_get (D := (dC, dI)) (ci := 5) (v := .int (nI (kk + 3))) (C := RX6) (T := TX6) (N := 12) hx hb hts inX6_ hown hK hP 0 rfl rfl 1 (by decide) (hts (.fieldLink RX6 54 "GateWheel" "tapeLength" "I") (List.mem_of_getElem? (i := 1) rfl)) (fun _ h9 => h9) rfl dX6_addToTape_8 ?_
  refine lv_sipush (v := 2000) hx hb dX6_addToTape_11 (by decide) ?_
  refine lv_icmp_ge (tgt := 46) hx hb dX6_addToTape_14 (by decide) (fun hc => absurd hc (nI_ge (a := (kk + 3)) (b := 2000) (by omega) (by omega))) (fun _ => ?_)
  refine lv_aload_n hx hb dX6_addToTape_17 rfl (lv_at hl 1 rfl) ?_
  refine va_get (D := (dC, dI)) (ci := 5) (v := .ref a1) (C := RX6) (T := TX6) (N := 12) hx hb hts inX6_ hown hK hP 0 rfl rfl 0 (by decide) (hts (.fieldLink RX6 9 "GateWheel" "tape" "[B") (List.mem_of_getElem? (i := 2) rfl)) (fun _ h9 => h9) rfl dX6_addToTape_18 ?_
  refine lv_aload_n hx hb dX6_addToTape_21 rfl (lv_at hl 1 rfl) ?_
  refine va_get (D := (dC, dI)) (ci := 5) (v := .int (nI (kk + 3))) (C := RX6) (T := TX6) (N := 12) hx hb hts inX6_ hown hK hP 0 rfl rfl 1 (by decide) (hts (.fieldLink RX6 54 "GateWheel" "tapeLength" "I") (List.mem_of_getElem? (i := 1) rfl)) (fun _ h9 => h9) rfl dX6_addToTape_22 ?_
  refine lv_iload_n hx hb dX6_addToTape_25 rfl (lv_at hl 2 rfl) ?_
  refine lv_iload_n hx hb dX6_addToTape_26 rfl (lv_at hl 0 rfl) ?_
  refine lv_iushr hx hb dX6_addToTape_27 rfl ?_
  refine lv_topi (fun zx19 ezx19 => ?_)
  refine lv_i2b hx hb dX6_addToTape_28 rfl ?_
  refine lv_topi (fun zx20 ezx20 => ?_)
  refine va_bast hx hb hK hP hD hS 1 0 rfl rfl (vp_in_nI (by omega) (by omega)) dX6_addToTape_29 (fun Hx21 locs hP hD hS => ?_)
  have hP : va_P (dC, dI) vwCl [(h0, .inr (5, [.ref a1, .int (nI (kk + 3)), .ref h0_2, .ref h0_3, .ref h0_4, .ref h0_5, .ref h0_6, .ref h0_7, .ref h0_8, .int h0_9, .ref h0_10, .int h0_11])), (a1, .inl (yb, 2000, .inl (upd fx16 (nI (kk + 3) : Int32).toNatClampNeg (vp_nar .byte zx20))))] Hx21 := hP
  have hD : va_D A [(h0, .inr (5, [.ref a1, .int (nI (kk + 3)), .ref h0_2, .ref h0_3, .ref h0_4, .ref h0_5, .ref h0_6, .ref h0_7, .ref h0_8, .int h0_9, .ref h0_10, .int h0_11])), (a1, .inl (yb, 2000, .inl (upd fx16 (nI (kk + 3) : Int32).toNatClampNeg (vp_nar .byte zx20))))] := hD
  generalize (upd fx16 (nI (kk + 3) : Int32).toNatClampNeg (vp_nar .byte zx20)) = fx22 at hP hD
  refine lv_aload_n hx hb dX6_addToTape_30 rfl (lv_at hl 1 rfl) ?_
  refine lv_dup hx hb dX6_addToTape_31 rfl ?_
  refine va_get (D := (dC, dI)) (ci := 5) (v := .int (nI (kk + 3))) (C := RX6) (T := TX6) (N := 12) hx hb hts inX6_ hown hK hP 0 rfl rfl 1 (by decide) (hts (.fieldLink RX6 54 "GateWheel" "tapeLength" "I") (List.mem_of_getElem? (i := 1) rfl)) (fun _ h9 => h9) rfl dX6_addToTape_32 ?_
  refine lv_iconst (v := 1) hx hb dX6_addToTape_35 (by decide) ?_
  refine lv_iadd hx hb dX6_addToTape_36 ?_
  refine lv_topi (fun zx23 ezx23 => ?_)
  obtain rfl : zx23 = nI (kk + 4) := by rw [ezx23]; exact (nI_add (kk + 3) 1)
  refine va_put (D := (dC, dI)) (ci := 5) (v := .int (nI (kk + 4))) (ty := .int) (C := RX6) (T := TX6) (N := 12) hx hb hts inX6_ tyX6 tyX6_ok nmX6 hown hK hP hD hS 0 rfl rfl 1 (by decide) (hts (.fieldLink RX6 54 "GateWheel" "tapeLength" "I") (List.mem_of_getElem? (i := 1) rfl)) (fun _ h9 => h9) rfl (by decide +kernel) rfl rfl (Nat.le_of_ble_eq_true rfl) dX6_addToTape_37 (fun Hx24 locs hP hD hS => ?_)
  have hP : va_P (dC, dI) vwCl [(h0, .inr (5, [.ref a1, .int (nI (kk + 4)), .ref h0_2, .ref h0_3, .ref h0_4, .ref h0_5, .ref h0_6, .ref h0_7, .ref h0_8, .int h0_9, .ref h0_10, .int h0_11])), (a1, .inl (yb, 2000, .inl fx22))] Hx24 := hP
  have hD : va_D A [(h0, .inr (5, [.ref a1, .int (nI (kk + 4)), .ref h0_2, .ref h0_3, .ref h0_4, .ref h0_5, .ref h0_6, .ref h0_7, .ref h0_8, .int h0_9, .ref h0_10, .int h0_11])), (a1, .inl (yb, 2000, .inl fx22))] := hD
  refine lv_iinc (v := (-8)) (lv' := [(2, .int (-8)), (0, .ref h0), (1, .int p1)]) hx hb dX6_addToTape_40 hl (k := 0) rfl (by decide) (by decide) rfl (fun ls hl => ?_)
  refine lv_goto (tgt := 3) hx hb dX6_addToTape_43 (by decide) ?_
  refine lv_iload_n hx hb dX6_addToTape_3 rfl (lv_at hl 0 rfl) ?_
  refine lv_if_lt (tgt := 46) hx hb dX6_addToTape_4 (by decide) (fun _ => ?_) (fun hc => absurd (by decide) hc)
  have hP9 := hP.sub (ws' := [(h0, .inr (5, [.ref a1, .int (nI (kk + 4)), .ref h0_2, .ref h0_3, .ref h0_4, .ref h0_5, .ref h0_6, .ref h0_7, .ref h0_8, .int h0_9, .ref h0_10, .int h0_11])), (a1, .inl (yb, 2000, .inl fx22))]) [0, 1] rfl
  have hD9 := hD.sub (ws' := [(h0, .inr (5, [.ref a1, .int (nI (kk + 4)), .ref h0_2, .ref h0_3, .ref h0_4, .ref h0_5, .ref h0_6, .ref h0_7, .ref h0_8, .int h0_9, .ref h0_10, .int h0_11])), (a1, .inl (yb, 2000, .inl fx22))]) [0, 1] (by decide) rfl
  have hK9 := hK.sub (tys' := [(yb, .byte)]) [0] rfl
  exact W.vret hx hb hr (fun t ht hW => ⟨⟨(), rfl, trivial, fx22, by rw [ht]; exact hP9, va_K.moved hW.alike hK9, hD9⟩, hS.F ht⟩) hS.2.2 dX6_addToTape_46

set_option maxHeartbeats 4000000 in
set_option maxRecDepth 100000 in
theorem c_X6_feed (l : Launch) (dC : Nat → ClassId) (dI : Nat → Nat → Nat) (h0 : Nat) (a1 : Nat) (h0_2 : Nat) (h0_3 : Nat) (h0_4 : Nat) (h0_5 : Nat) (h0_6 : Nat) (h0_7 : Nat) (h0_8 : Nat) (h0_9 : Int32) (h0_10 : Nat) (h0_11 : Int32) (p1 : Int32) (p2 : Int32) (p3 : Int32) (p4 : Int32) (p5 : Int32) (yb : ClassId) (f1 : Nat → Int32) (sz : Nat) : Met l yX6_feed wsX6_feed ({ frames := 1, cells := 0, slots := 0, locals := 22 }) (va_Pc [.ref h0, .int p1, .int p2, .int p3, .int p4, .int p5] (fun U => U.heap.size = sz ∧ va_P (dC, dI) vwCl [(h0, .inr (5, [.ref a1, .int 0, .ref h0_2, .ref h0_3, .ref h0_4, .ref h0_5, .ref h0_6, .ref h0_7, .ref h0_8, .int h0_9, .ref h0_10, .int h0_11])), (a1, .inl (yb, 2000, .inl f1))] U.heap ∧ va_K (dC, dI) vwCl [(yb, .byte)] U ∧ va_D (fun _ => True) [(h0, .inr (5, [.ref a1, .int 0, .ref h0_2, .ref h0_3, .ref h0_4, .ref h0_5, .ref h0_6, .ref h0_7, .ref h0_8, .int h0_9, .ref h0_10, .int h0_11])), (a1, .inl (yb, 2000, .inl f1))])) (va_Qi (fun (r : Int32) (_ : Unit) => r = 20) (fun (_ : Unit) (_ : State) => True) (va_A [(h0, .inr (5, [.ref a1, .int 0, .ref h0_2, .ref h0_3, .ref h0_4, .ref h0_5, .ref h0_6, .ref h0_7, .ref h0_8, .int h0_9, .ref h0_10, .int h0_11])), (a1, .inl (yb, 2000, .inl f1))] sz)) 0 0 (va_A [(h0, .inr (5, [.ref a1, .int 0, .ref h0_2, .ref h0_3, .ref h0_4, .ref h0_5, .ref h0_6, .ref h0_7, .ref h0_8, .int h0_9, .ref h0_10, .int h0_11])), (a1, .inl (yb, 2000, .inl f1))] sz) := by
  refine Met.ofW (cc := cX6_feed) (maxL := 6) (ret := (some .int)) (by decide) rfl ?_
  intro p e s m args below meth c s₁ B hml hv
  obtain ⟨rfl, hsz, hP, hK, hD0⟩ := hv
  have hx := B.exec
  have hb := B.bytes
  have hr := B.returns
  have hts := atoms_spec (ws := wsX6_feed) B.pre
  have hown : s.vm.findClass RX6 = some m.cls := findClass_of_methodNamed B.named
  have hlocks := B.notSynchronized
  have inX6_ : ∀ w ∈ wsX60, w ∈ wsX6_feed := fun _ h => List.mem_cons_of_mem _ (List.mem_append_right _ h)
  subst hsz
  have hD := hD0.self (sz := s.heap.size)
  generalize hAe : va_A [(h0, .inr (5, [.ref a1, .int 0, .ref h0_2, .ref h0_3, .ref h0_4, .ref h0_5, .ref h0_6, .ref h0_7, .ref h0_8, .int h0_9, .ref h0_10, .int h0_11])), (a1, .inl (yb, 2000, .inl f1))] s.heap.size = A at hD ⊢
  have hA : ∀ q : Nat, s.heap.size ≤ q → A q := fun q h => by rw [← hAe]; exact Or.inr h
  have hS : va_S A s.heap s.heap [] := va_S.rf
  have hP : va_P (dC, dI) vwCl [(h0, .inr (5, [.ref a1, .int 0, .ref h0_2, .ref h0_3, .ref h0_4, .ref h0_5, .ref h0_6, .ref h0_7, .ref h0_8, .int h0_9, .ref h0_10, .int h0_11])), (a1, .inl (yb, 2000, .inl f1))] s.heap := hP
  have hl := lv_entry ([.ref h0, .int p1, .int p2, .int p3, .int p4, .int p5]) (n := 6) (Nat.le_of_ble_eq_true rfl)
  rw [lg_entry_eq]
  generalize (lg_sl ([.ref h0, .int p1, .int p2, .int p3, .int p4, .int p5]) ++ List.replicate (6 - (lg_sl ([.ref h0, .int p1, .int p2, .int p3, .int p4, .int p5])).length) Slot.unset).toArray = ls at hl ⊢
  have hl : lv_has ls 6 [(0, .ref h0), (1, .int p1), (2, .int p2), (3, .int p3), (4, .int p4), (5, .int p5)] := hl
  refine lv_aload_n hx hb dX6_feed_0 rfl (lv_at hl 0 rfl) ?_
  refine va_get (D := (dC, dI)) (ci := 5) (v := .int 0) (C := RX6) (T := TX6) (N := 12) hx hb hts inX6_ hown hK hP 0 rfl rfl 1 (by decide) (hts (.fieldLink RX6 54 "GateWheel" "tapeLength" "I") (List.mem_of_getElem? (i := 1) rfl)) (fun _ h9 => h9) rfl dX6_feed_1 ?_
  refine lv_bipush (v := 20) hx hb dX6_feed_4 (by decide) ?_
  refine lv_iadd hx hb dX6_feed_6 ?_
  refine lv_topi (fun zx1 ezx1 => ?_)
  obtain rfl : zx1 = 20 := by rw [ezx1]; decide
  refine lv_sipush (v := 2000) hx hb dX6_feed_7 (by decide) ?_
  refine lv_icmp_le (tgt := 15) hx hb dX6_feed_10 (by decide) (fun _ => ?_) (fun hc => absurd (by decide) hc)
  refine lv_aload_n hx hb dX6_feed_15 rfl (lv_at hl 0 rfl) ?_
  refine lv_iload_n hx hb dX6_feed_16 rfl (lv_at hl 1 rfl) ?_
  have hPc := hP.sub (ws' := [(h0, .inr (5, [.ref a1, .int (nI 0), .ref h0_2, .ref h0_3, .ref h0_4, .ref h0_5, .ref h0_6, .ref h0_7, .ref h0_8, .int h0_9, .ref h0_10, .int h0_11])), (a1, .inl (yb, 2000, .inl f1))]) [0, 1] rfl
  have hDc := hD.sub (ws' := [(h0, .inr (5, [.ref a1, .int (nI 0), .ref h0_2, .ref h0_3, .ref h0_4, .ref h0_5, .ref h0_6, .ref h0_7, .ref h0_8, .int h0_9, .ref h0_10, .int h0_11])), (a1, .inl (yb, 2000, .inl f1))]) [0, 1] (by decide) rfl
  have hKc := hK.sub (tys' := [(yb, .byte)]) [0] rfl
  have hFc := va_free (wc := [(h0, .inr (5, [.ref a1, .int (nI 0), .ref h0_2, .ref h0_3, .ref h0_4, .ref h0_5, .ref h0_6, .ref h0_7, .ref h0_8, .int h0_9, .ref h0_10, .int h0_11])), (a1, .inl (yb, 2000, .inl f1))]) hD hS hA [0, 1] rfl
  have hy_k : 0 + 4 ≤ 2000 := by decide
  refine va_callv (va_runV (As := [.int p1]) (rest := []) ⟨hx, hb, hml, hown, hts⟩ (c_X6_addToTape l dC dI h0 a1 0 h0_2 h0_3 h0_4 h0_5 h0_6 h0_7 h0_8 h0_9 h0_10 h0_11 p1 yb f1 s.heap.size hy_k) (cwV 1 hts gX6_feed_X6_addToTape rfl rfl rfl (by decide +kernel) ⟨Nat.le_of_ble_eq_true rfl, Nat.le_of_ble_eq_true rfl⟩) ⟨fun a U g mk q => by obtain ⟨q0, q1, qP, qK, qD⟩ := q; exact ⟨q0, q1, qP, va_K.moved (u := U) (U := U.calling g mk a) (Vm.Alike.refl U.vm) qK, qD⟩, va_recv hKc hPc (ci := 5) (q0 := 0) rfl rfl, fun U hU hW => ⟨rfl, by rw [hU], by rw [hU]; exact hPc, va_K.moved hW.alike hKc, hDc.weaken (fun _ _ _ _ => trivial)⟩⟩ rfl rfl hl.1 rfl (lv_room (Nat.le_of_ble_eq_true rfl)) dX6_feed_17 ⟨Nat.le_of_ble_eq_true rfl, Nat.le_of_ble_eq_true rfl⟩) hS (fun q _ h => hFc q h) hFc (fun u t Hx2 locs ht hvm hw hB hz1 hk1 hS => ?_)
  obtain ⟨fx4, hP1, hK1, hD1⟩ := hB
  rw [ht] at hP1
  have hK1 := va_K.moved hvm.symm hK1
  obtain ⟨hP, hD⟩ := va_join (wr := []) (w1 := [(h0, .inr (5, [.ref a1, .int (nI (0 + 4)), .ref h0_2, .ref h0_3, .ref h0_4, .ref h0_5, .ref h0_6, .ref h0_7, .ref h0_8, .int h0_9, .ref h0_10, .int h0_11])), (a1, .inl (yb, 2000, .inl fx4))]) hP hD [0, 1] [] rfl rfl (by decide) (by decide) hk1 hFc hP1 hD1
  have hK := (hK.sub (tys' := []) [] rfl).app hK1
  have hP : va_P (dC, dI) vwCl [(h0, .inr (5, [.ref a1, .int (nI (0 + 4)), .ref h0_2, .ref h0_3, .ref h0_4, .ref h0_5, .ref h0_6, .ref h0_7, .ref h0_8, .int h0_9, .ref h0_10, .int h0_11])), (a1, .inl (yb, 2000, .inl fx4))] Hx2 := hP
  have hD : va_D A [(h0, .inr (5, [.ref a1, .int (nI (0 + 4)), .ref h0_2, .ref h0_3, .ref h0_4, .ref h0_5, .ref h0_6, .ref h0_7, .ref h0_8, .int h0_9, .ref h0_10, .int h0_11])), (a1, .inl (yb, 2000, .inl fx4))] := hD
  have hK : va_K (dC, dI) vwCl [(yb, .byte)] s := hK
  refine lv_aload_n hx hb dX6_feed_20 rfl (lv_at hl 0 rfl) ?_
  refine lv_iload_n hx hb dX6_feed_21 rfl (lv_at hl 2 rfl) ?_
  have hPc := hP.sub (ws' := [(h0, .inr (5, [.ref a1, .int (nI (0 + 4)), .ref h0_2, .ref h0_3, .ref h0_4, .ref h0_5, .ref h0_6, .ref h0_7, .ref h0_8, .int h0_9, .ref h0_10, .int h0_11])), (a1, .inl (yb, 2000, .inl fx4))]) [0, 1] rfl
  have hDc := hD.sub (ws' := [(h0, .inr (5, [.ref a1, .int (nI (0 + 4)), .ref h0_2, .ref h0_3, .ref h0_4, .ref h0_5, .ref h0_6, .ref h0_7, .ref h0_8, .int h0_9, .ref h0_10, .int h0_11])), (a1, .inl (yb, 2000, .inl fx4))]) [0, 1] (by decide) rfl
  have hKc := hK.sub (tys' := [(yb, .byte)]) [0] rfl
  have hFc := va_free (wc := [(h0, .inr (5, [.ref a1, .int (nI (0 + 4)), .ref h0_2, .ref h0_3, .ref h0_4, .ref h0_5, .ref h0_6, .ref h0_7, .ref h0_8, .int h0_9, .ref h0_10, .int h0_11])), (a1, .inl (yb, 2000, .inl fx4))]) hD hS hA [0, 1] rfl
  have hy_k : (0 + 4) + 4 ≤ 2000 := by decide
  refine va_callv (va_runV (As := [.int p2]) (rest := []) ⟨hx, hb, hml, hown, hts⟩ (c_X6_addToTape l dC dI h0 a1 (0 + 4) h0_2 h0_3 h0_4 h0_5 h0_6 h0_7 h0_8 h0_9 h0_10 h0_11 p2 yb fx4 Hx2.size hy_k) (cwV 1 hts gX6_feed_X6_addToTape rfl rfl rfl (by decide +kernel) ⟨Nat.le_of_ble_eq_true rfl, Nat.le_of_ble_eq_true rfl⟩) ⟨fun a U g mk q => by obtain ⟨q0, q1, qP, qK, qD⟩ := q; exact ⟨q0, q1, qP, va_K.moved (u := U) (U := U.calling g mk a) (Vm.Alike.refl U.vm) qK, qD⟩, va_recv hKc hPc (ci := 5) (q0 := 0) rfl rfl, fun U hU hW => ⟨rfl, by rw [hU], by rw [hU]; exact hPc, va_K.moved hW.alike hKc, hDc.weaken (fun _ _ _ _ => trivial)⟩⟩ rfl rfl hl.1 rfl (lv_room (Nat.le_of_ble_eq_true rfl)) dX6_feed_22 ⟨Nat.le_of_ble_eq_true rfl, Nat.le_of_ble_eq_true rfl⟩) hS (fun q _ h => hFc q h) hFc (fun u t Hx5 locs ht hvm hw hB hz1 hk1 hS => ?_)
  obtain ⟨fx7, hP1, hK1, hD1⟩ := hB
  rw [ht] at hP1
  have hK1 := va_K.moved hvm.symm hK1
  obtain ⟨hP, hD⟩ := va_join (wr := []) (w1 := [(h0, .inr (5, [.ref a1, .int (nI ((0 + 4) + 4)), .ref h0_2, .ref h0_3, .ref h0_4, .ref h0_5, .ref h0_6, .ref h0_7, .ref h0_8, .int h0_9, .ref h0_10, .int h0_11])), (a1, .inl (yb, 2000, .inl fx7))]) hP hD [0, 1] [] rfl rfl (by decide) (by decide) hk1 hFc hP1 hD1
  have hK := (hK.sub (tys' := []) [] rfl).app hK1
  have hP : va_P (dC, dI) vwCl [(h0, .inr (5, [.ref a1, .int (nI ((0 + 4) + 4)), .ref h0_2, .ref h0_3, .ref h0_4, .ref h0_5, .ref h0_6, .ref h0_7, .ref h0_8, .int h0_9, .ref h0_10, .int h0_11])), (a1, .inl (yb, 2000, .inl fx7))] Hx5 := hP
  have hD : va_D A [(h0, .inr (5, [.ref a1, .int (nI ((0 + 4) + 4)), .ref h0_2, .ref h0_3, .ref h0_4, .ref h0_5, .ref h0_6, .ref h0_7, .ref h0_8, .int h0_9, .ref h0_10, .int h0_11])), (a1, .inl (yb, 2000, .inl fx7))] := hD
  have hK : va_K (dC, dI) vwCl [(yb, .byte)] s := hK
  refine lv_aload_n hx hb dX6_feed_25 rfl (lv_at hl 0 rfl) ?_
  refine lv_iload_n hx hb dX6_feed_26 rfl (lv_at hl 3 rfl) ?_
  have hPc := hP.sub (ws' := [(h0, .inr (5, [.ref a1, .int (nI ((0 + 4) + 4)), .ref h0_2, .ref h0_3, .ref h0_4, .ref h0_5, .ref h0_6, .ref h0_7, .ref h0_8, .int h0_9, .ref h0_10, .int h0_11])), (a1, .inl (yb, 2000, .inl fx7))]) [0, 1] rfl
  have hDc := hD.sub (ws' := [(h0, .inr (5, [.ref a1, .int (nI ((0 + 4) + 4)), .ref h0_2, .ref h0_3, .ref h0_4, .ref h0_5, .ref h0_6, .ref h0_7, .ref h0_8, .int h0_9, .ref h0_10, .int h0_11])), (a1, .inl (yb, 2000, .inl fx7))]) [0, 1] (by decide) rfl
  have hKc := hK.sub (tys' := [(yb, .byte)]) [0] rfl
  have hFc := va_free (wc := [(h0, .inr (5, [.ref a1, .int (nI ((0 + 4) + 4)), .ref h0_2, .ref h0_3, .ref h0_4, .ref h0_5, .ref h0_6, .ref h0_7, .ref h0_8, .int h0_9, .ref h0_10, .int h0_11])), (a1, .inl (yb, 2000, .inl fx7))]) hD hS hA [0, 1] rfl
  have hy_k : ((0 + 4) + 4) + 4 ≤ 2000 := by decide
  refine va_callv (va_runV (As := [.int p3]) (rest := []) ⟨hx, hb, hml, hown, hts⟩ (c_X6_addToTape l dC dI h0 a1 ((0 + 4) + 4) h0_2 h0_3 h0_4 h0_5 h0_6 h0_7 h0_8 h0_9 h0_10 h0_11 p3 yb fx7 Hx5.size hy_k) (cwV 1 hts gX6_feed_X6_addToTape rfl rfl rfl (by decide +kernel) ⟨Nat.le_of_ble_eq_true rfl, Nat.le_of_ble_eq_true rfl⟩) ⟨fun a U g mk q => by obtain ⟨q0, q1, qP, qK, qD⟩ := q; exact ⟨q0, q1, qP, va_K.moved (u := U) (U := U.calling g mk a) (Vm.Alike.refl U.vm) qK, qD⟩, va_recv hKc hPc (ci := 5) (q0 := 0) rfl rfl, fun U hU hW => ⟨rfl, by rw [hU], by rw [hU]; exact hPc, va_K.moved hW.alike hKc, hDc.weaken (fun _ _ _ _ => trivial)⟩⟩ rfl rfl hl.1 rfl (lv_room (Nat.le_of_ble_eq_true rfl)) dX6_feed_27 ⟨Nat.le_of_ble_eq_true rfl, Nat.le_of_ble_eq_true rfl⟩) hS (fun q _ h => hFc q h) hFc (fun u t Hx8 locs ht hvm hw hB hz1 hk1 hS => ?_)
  obtain ⟨fx10, hP1, hK1, hD1⟩ := hB
  rw [ht] at hP1
  have hK1 := va_K.moved hvm.symm hK1
  obtain ⟨hP, hD⟩ := va_join (wr := []) (w1 := [(h0, .inr (5, [.ref a1, .int (nI (((0 + 4) + 4) + 4)), .ref h0_2, .ref h0_3, .ref h0_4, .ref h0_5, .ref h0_6, .ref h0_7, .ref h0_8, .int h0_9, .ref h0_10, .int h0_11])), (a1, .inl (yb, 2000, .inl fx10))]) hP hD [0, 1] [] rfl rfl (by decide) (by decide) hk1 hFc hP1 hD1
  have hK := (hK.sub (tys' := []) [] rfl).app hK1
  have hP : va_P (dC, dI) vwCl [(h0, .inr (5, [.ref a1, .int (nI (((0 + 4) + 4) + 4)), .ref h0_2, .ref h0_3, .ref h0_4, .ref h0_5, .ref h0_6, .ref h0_7, .ref h0_8, .int h0_9, .ref h0_10, .int h0_11])), (a1, .inl (yb, 2000, .inl fx10))] Hx8 := hP
  have hD : va_D A [(h0, .inr (5, [.ref a1, .int (nI (((0 + 4) + 4) + 4)), .ref h0_2, .ref h0_3, .ref h0_4, .ref h0_5, .ref h0_6, .ref h0_7, .ref h0_8, .int h0_9, .ref h0_10, .int h0_11])), (a1, .inl (yb, 2000, .inl fx10))] := hD
  have hK : va_K (dC, dI) vwCl [(yb, .byte)] s := hK
  refine lv_aload_n hx hb dX6_feed_30 rfl (lv_at hl 0 rfl) ?_
  refine lv_iload hx hb dX6_feed_31 (lv_at hl 4 rfl) ?_
  have hPc := hP.sub (ws' := [(h0, .inr (5, [.ref a1, .int (nI (((0 + 4) + 4) + 4)), .ref h0_2, .ref h0_3, .ref h0_4, .ref h0_5, .ref h0_6, .ref h0_7, .ref h0_8, .int h0_9, .ref h0_10, .int h0_11])), (a1, .inl (yb, 2000, .inl fx10))]) [0, 1] rfl
  have hDc := hD.sub (ws' := [(h0, .inr (5, [.ref a1, .int (nI (((0 + 4) + 4) + 4)), .ref h0_2, .ref h0_3, .ref h0_4, .ref h0_5, .ref h0_6, .ref h0_7, .ref h0_8, .int h0_9, .ref h0_10, .int h0_11])), (a1, .inl (yb, 2000, .inl fx10))]) [0, 1] (by decide) rfl
  have hKc := hK.sub (tys' := [(yb, .byte)]) [0] rfl
  have hFc := va_free (wc := [(h0, .inr (5, [.ref a1, .int (nI (((0 + 4) + 4) + 4)), .ref h0_2, .ref h0_3, .ref h0_4, .ref h0_5, .ref h0_6, .ref h0_7, .ref h0_8, .int h0_9, .ref h0_10, .int h0_11])), (a1, .inl (yb, 2000, .inl fx10))]) hD hS hA [0, 1] rfl
  have hy_k : (((0 + 4) + 4) + 4) + 4 ≤ 2000 := by decide
  refine va_callv (va_runV (As := [.int p4]) (rest := []) ⟨hx, hb, hml, hown, hts⟩ (c_X6_addToTape l dC dI h0 a1 (((0 + 4) + 4) + 4) h0_2 h0_3 h0_4 h0_5 h0_6 h0_7 h0_8 h0_9 h0_10 h0_11 p4 yb fx10 Hx8.size hy_k) (cwV 1 hts gX6_feed_X6_addToTape rfl rfl rfl (by decide +kernel) ⟨Nat.le_of_ble_eq_true rfl, Nat.le_of_ble_eq_true rfl⟩) ⟨fun a U g mk q => by obtain ⟨q0, q1, qP, qK, qD⟩ := q; exact ⟨q0, q1, qP, va_K.moved (u := U) (U := U.calling g mk a) (Vm.Alike.refl U.vm) qK, qD⟩, va_recv hKc hPc (ci := 5) (q0 := 0) rfl rfl, fun U hU hW => ⟨rfl, by rw [hU], by rw [hU]; exact hPc, va_K.moved hW.alike hKc, hDc.weaken (fun _ _ _ _ => trivial)⟩⟩ rfl rfl hl.1 rfl (lv_room (Nat.le_of_ble_eq_true rfl)) dX6_feed_33 ⟨Nat.le_of_ble_eq_true rfl, Nat.le_of_ble_eq_true rfl⟩) hS (fun q _ h => hFc q h) hFc (fun u t Hx11 locs ht hvm hw hB hz1 hk1 hS => ?_)
  obtain ⟨fx13, hP1, hK1, hD1⟩ := hB
  rw [ht] at hP1
  have hK1 := va_K.moved hvm.symm hK1
  obtain ⟨hP, hD⟩ := va_join (wr := []) (w1 := [(h0, .inr (5, [.ref a1, .int (nI ((((0 + 4) + 4) + 4) + 4)), .ref h0_2, .ref h0_3, .ref h0_4, .ref h0_5, .ref h0_6, .ref h0_7, .ref h0_8, .int h0_9, .ref h0_10, .int h0_11])), (a1, .inl (yb, 2000, .inl fx13))]) hP hD [0, 1] [] rfl rfl (by decide) (by decide) hk1 hFc hP1 hD1
  have hK := (hK.sub (tys' := []) [] rfl).app hK1
  have hP : va_P (dC, dI) vwCl [(h0, .inr (5, [.ref a1, .int (nI ((((0 + 4) + 4) + 4) + 4)), .ref h0_2, .ref h0_3, .ref h0_4, .ref h0_5, .ref h0_6, .ref h0_7, .ref h0_8, .int h0_9, .ref h0_10, .int h0_11])), (a1, .inl (yb, 2000, .inl fx13))] Hx11 := hP
  have hD : va_D A [(h0, .inr (5, [.ref a1, .int (nI ((((0 + 4) + 4) + 4) + 4)), .ref h0_2, .ref h0_3, .ref h0_4, .ref h0_5, .ref h0_6, .ref h0_7, .ref h0_8, .int h0_9, .ref h0_10, .int h0_11])), (a1, .inl (yb, 2000, .inl fx13))] := hD
  have hK : va_K (dC, dI) vwCl [(yb, .byte)] s := hK
  refine lv_aload_n hx hb dX6_feed_36 rfl (lv_at hl 0 rfl) ?_
  refine lv_iload hx hb dX6_feed_37 (lv_at hl 5 rfl) ?_
  have hPc := hP.sub (ws' := [(h0, .inr (5, [.ref a1, .int (nI ((((0 + 4) + 4) + 4) + 4)), .ref h0_2, .ref h0_3, .ref h0_4, .ref h0_5, .ref h0_6, .ref h0_7, .ref h0_8, .int h0_9, .ref h0_10, .int h0_11])), (a1, .inl (yb, 2000, .inl fx13))]) [0, 1] rfl
  have hDc := hD.sub (ws' := [(h0, .inr (5, [.ref a1, .int (nI ((((0 + 4) + 4) + 4) + 4)), .ref h0_2, .ref h0_3, .ref h0_4, .ref h0_5, .ref h0_6, .ref h0_7, .ref h0_8, .int h0_9, .ref h0_10, .int h0_11])), (a1, .inl (yb, 2000, .inl fx13))]) [0, 1] (by decide) rfl
  have hKc := hK.sub (tys' := [(yb, .byte)]) [0] rfl
  have hFc := va_free (wc := [(h0, .inr (5, [.ref a1, .int (nI ((((0 + 4) + 4) + 4) + 4)), .ref h0_2, .ref h0_3, .ref h0_4, .ref h0_5, .ref h0_6, .ref h0_7, .ref h0_8, .int h0_9, .ref h0_10, .int h0_11])), (a1, .inl (yb, 2000, .inl fx13))]) hD hS hA [0, 1] rfl
  have hy_k : ((((0 + 4) + 4) + 4) + 4) + 4 ≤ 2000 := by decide
  refine va_callv (va_runV (As := [.int p5]) (rest := []) ⟨hx, hb, hml, hown, hts⟩ (c_X6_addToTape l dC dI h0 a1 ((((0 + 4) + 4) + 4) + 4) h0_2 h0_3 h0_4 h0_5 h0_6 h0_7 h0_8 h0_9 h0_10 h0_11 p5 yb fx13 Hx11.size hy_k) (cwV 1 hts gX6_feed_X6_addToTape rfl rfl rfl (by decide +kernel) ⟨Nat.le_of_ble_eq_true rfl, Nat.le_of_ble_eq_true rfl⟩) ⟨fun a U g mk q => by obtain ⟨q0, q1, qP, qK, qD⟩ := q; exact ⟨q0, q1, qP, va_K.moved (u := U) (U := U.calling g mk a) (Vm.Alike.refl U.vm) qK, qD⟩, va_recv hKc hPc (ci := 5) (q0 := 0) rfl rfl, fun U hU hW => ⟨rfl, by rw [hU], by rw [hU]; exact hPc, va_K.moved hW.alike hKc, hDc.weaken (fun _ _ _ _ => trivial)⟩⟩ rfl rfl hl.1 rfl (lv_room (Nat.le_of_ble_eq_true rfl)) dX6_feed_39 ⟨Nat.le_of_ble_eq_true rfl, Nat.le_of_ble_eq_true rfl⟩) hS (fun q _ h => hFc q h) hFc (fun u t Hx14 locs ht hvm hw hB hz1 hk1 hS => ?_)
  obtain ⟨fx16, hP1, hK1, hD1⟩ := hB
  rw [ht] at hP1
  have hK1 := va_K.moved hvm.symm hK1
  obtain ⟨hP, hD⟩ := va_join (wr := []) (w1 := [(h0, .inr (5, [.ref a1, .int (nI (((((0 + 4) + 4) + 4) + 4) + 4)), .ref h0_2, .ref h0_3, .ref h0_4, .ref h0_5, .ref h0_6, .ref h0_7, .ref h0_8, .int h0_9, .ref h0_10, .int h0_11])), (a1, .inl (yb, 2000, .inl fx16))]) hP hD [0, 1] [] rfl rfl (by decide) (by decide) hk1 hFc hP1 hD1
  have hK := (hK.sub (tys' := []) [] rfl).app hK1
  have hP : va_P (dC, dI) vwCl [(h0, .inr (5, [.ref a1, .int (nI (((((0 + 4) + 4) + 4) + 4) + 4)), .ref h0_2, .ref h0_3, .ref h0_4, .ref h0_5, .ref h0_6, .ref h0_7, .ref h0_8, .int h0_9, .ref h0_10, .int h0_11])), (a1, .inl (yb, 2000, .inl fx16))] Hx14 := hP
  have hD : va_D A [(h0, .inr (5, [.ref a1, .int (nI (((((0 + 4) + 4) + 4) + 4) + 4)), .ref h0_2, .ref h0_3, .ref h0_4, .ref h0_5, .ref h0_6, .ref h0_7, .ref h0_8, .int h0_9, .ref h0_10, .int h0_11])), (a1, .inl (yb, 2000, .inl fx16))] := hD
  have hK : va_K (dC, dI) vwCl [(yb, .byte)] s := hK
  refine lv_aload_n hx hb dX6_feed_42 rfl (lv_at hl 0 rfl) ?_
  refine va_get (D := (dC, dI)) (ci := 5) (v := .int (nI (((((0 + 4) + 4) + 4) + 4) + 4))) (C := RX6) (T := TX6) (N := 12) hx hb hts inX6_ hown hK hP 0 rfl rfl 1 (by decide) (hts (.fieldLink RX6 54 "GateWheel" "tapeLength" "I") (List.mem_of_getElem? (i := 1) rfl)) (fun _ h9 => h9) rfl dX6_feed_43 ?_
  exact W.iret (v := nI (((((0 + 4) + 4) + 4) + 4) + 4)) hx hb hr (fun t ht hW => ⟨⟨nI (((((0 + 4) + 4) + 4) + 4) + 4), (), rfl, (by decide), trivial⟩, hS.F ht⟩) hS.2.2 dX6_feed_46

set_option maxHeartbeats 4000000 in
set_option maxRecDepth 100000 in
theorem c_X6_named (l : Launch) (dC : Nat → ClassId) (dI : Nat → Nat → Nat) (h0 : Nat) (h1 : Nat) (h0_0 : Nat) (h0_1 : Int32) (h0_2 : Nat) (h0_4 : Nat) (h0_5 : Nat) (h0_6 : Nat) (h0_7 : Nat) (h0_8 : Nat) (h0_9 : Int32) (h0_10 : Nat) (h0_11 : Int32) (h1_1 : Int32) (h1_2 : Nat) (h1_3 : Nat) (h1_4 : Nat) (h1_5 : Nat) (h1_6 : Nat) (h1_7 : Nat) (h1_8 : Nat) (h1_9 : Nat) (h1_10 : Nat) (h1_11 : Nat) (h1_12 : Nat) (p1 : Int64) (sz : Nat) : Met l yX6_named wsX6_named ({ frames := 1, cells := 0, slots := 0, locals := 23 }) (va_Pc [.ref h0, .long p1] (fun U => U.heap.size = sz ∧ va_P (dC, dI) vwCl [(h0, .inr (5, [.ref h0_0, .int h0_1, .ref h0_2, .ref h1, .ref h0_4, .ref h0_5, .ref h0_6, .ref h0_7, .ref h0_8, .int h0_9, .ref h0_10, .int h0_11])), (h1, .inr (0, [.int 0, .int h1_1, .ref h1_2, .ref h1_3, .ref h1_4, .ref h1_5, .ref h1_6, .ref h1_7, .ref h1_8, .ref h1_9, .ref h1_10, .ref h1_11, .ref h1_12]))] U.heap ∧ va_K (dC, dI) vwCl [] U ∧ va_D (fun _ => True) [(h0, .inr (5, [.ref h0_0, .int h0_1, .ref h0_2, .ref h1, .ref h0_4, .ref h0_5, .ref h0_6, .ref h0_7, .ref h0_8, .int h0_9, .ref h0_10, .int h0_11])), (h1, .inr (0, [.int 0, .int h1_1, .ref h1_2, .ref h1_3, .ref h1_4, .ref h1_5, .ref h1_6, .ref h1_7, .ref h1_8, .ref h1_9, .ref h1_10, .ref h1_11, .ref h1_12]))])) (va_Qi (fun (r : Int32) (_ : Unit) => r = (-1)) (fun (_ : Unit) (_ : State) => True) (va_A [(h0, .inr (5, [.ref h0_0, .int h0_1, .ref h0_2, .ref h1, .ref h0_4, .ref h0_5, .ref h0_6, .ref h0_7, .ref h0_8, .int h0_9, .ref h0_10, .int h0_11])), (h1, .inr (0, [.int 0, .int h1_1, .ref h1_2, .ref h1_3, .ref h1_4, .ref h1_5, .ref h1_6, .ref h1_7, .ref h1_8, .ref h1_9, .ref h1_10, .ref h1_11, .ref h1_12]))] sz)) 0 0 (va_A [(h0, .inr (5, [.ref h0_0, .int h0_1, .ref h0_2, .ref h1, .ref h0_4, .ref h0_5, .ref h0_6, .ref h0_7, .ref h0_8, .int h0_9, .ref h0_10, .int h0_11])), (h1, .inr (0, [.int 0, .int h1_1, .ref h1_2, .ref h1_3, .ref h1_4, .ref h1_5, .ref h1_6, .ref h1_7, .ref h1_8, .ref h1_9, .ref h1_10, .ref h1_11, .ref h1_12]))] sz) := by
  refine Met.ofW (cc := cX6_named) (maxL := 8) (ret := (some .int)) (by decide) rfl ?_
  intro p e s m args below meth c s₁ B hml hv
  obtain ⟨rfl, hsz, hP, hK, hD0⟩ := hv
  have hx := B.exec
  have hb := B.bytes
  have hr := B.returns
  have hts := atoms_spec (ws := wsX6_named) B.pre
  have hown : s.vm.findClass RX6 = some m.cls := findClass_of_methodNamed B.named
  have hlocks := B.notSynchronized
  have inX6_ : ∀ w ∈ wsX60, w ∈ wsX6_named := fun _ h => List.mem_cons_of_mem _ (List.mem_append_left _ (List.mem_append_right _ h))
  subst hsz
  have hD := hD0.self (sz := s.heap.size)
  generalize hAe : va_A [(h0, .inr (5, [.ref h0_0, .int h0_1, .ref h0_2, .ref h1, .ref h0_4, .ref h0_5, .ref h0_6, .ref h0_7, .ref h0_8, .int h0_9, .ref h0_10, .int h0_11])), (h1, .inr (0, [.int 0, .int h1_1, .ref h1_2, .ref h1_3, .ref h1_4, .ref h1_5, .ref h1_6, .ref h1_7, .ref h1_8, .ref h1_9, .ref h1_10, .ref h1_11, .ref h1_12]))] s.heap.size = A at hD ⊢
  have hA : ∀ q : Nat, s.heap.size ≤ q → A q := fun q h => by rw [← hAe]; exact Or.inr h
  have hS : va_S A s.heap s.heap [] := va_S.rf
  have hP : va_P (dC, dI) vwCl [(h0, .inr (5, [.ref h0_0, .int h0_1, .ref h0_2, .ref h1, .ref h0_4, .ref h0_5, .ref h0_6, .ref h0_7, .ref h0_8, .int h0_9, .ref h0_10, .int h0_11])), (h1, .inr (0, [.int 0, .int h1_1, .ref h1_2, .ref h1_3, .ref h1_4, .ref h1_5, .ref h1_6, .ref h1_7, .ref h1_8, .ref h1_9, .ref h1_10, .ref h1_11, .ref h1_12]))] s.heap := hP
  have hl := lv_entry ([.ref h0, .long p1]) (n := 8) (Nat.le_of_ble_eq_true rfl)
  rw [lg_entry_eq]
  generalize (lg_sl ([.ref h0, .long p1]) ++ List.replicate (8 - (lg_sl ([.ref h0, .long p1])).length) Slot.unset).toArray = ls at hl ⊢
  have hl : lv_has ls 8 [(0, .ref h0), (1, .long p1)] := hl
  refine lv_lconst (v := 0) hx hb dX6_named_0 (by decide) ?_
  refine lv_lstore_n (lv' := [(3, .long 0), (0, .ref h0), (1, .long p1)]) hx hb dX6_named_1 rfl hl (by decide) rfl (fun ls hl => ?_)
  refine lv_bipush (v := 56) hx hb dX6_named_2 (by decide) ?_
  refine lv_istore (lv' := [(5, .int 56), (3, .long 0), (0, .ref h0), (1, .long p1)]) hx hb dX6_named_4 hl (by decide) rfl (fun ls hl => ?_)
  obtain ⟨n, hI⟩ : ∃ n : Nat, (n ≤ 8 ∧ (56 : Int32) = nI (8 * n) - 8) ∧ lv_has ls 8 [(5, .int 56), (3, .long 0), (0, .ref h0), (1, .long p1)] := ⟨8, ⟨by omega, by decide⟩, lv_sub hl [0, 1, 2, 3] rfl⟩
  clear hl
  generalize (56 : Int32) = x5 at hI
  generalize (0 : Int64) = x3 at hI
  induction n generalizing x5 x3 ls with
  | zero =>
    obtain ⟨⟨_, ex⟩, hl⟩ := hI
    refine lv_iload hx hb dX6_named_6 (lv_at hl 0 rfl) ?_
    refine lv_if_lt (tgt := 42) hx hb dX6_named_8 (by decide) (fun _ => ?_) (fun hc => absurd (by rw [ex]; decide) hc)
    refine lv_aload_n hx hb dX6_named_42 rfl (lv_at hl 2 rfl) ?_
    refine va_get (D := (dC, dI)) (ci := 5) (v := .ref h1) (C := RX6) (T := TX6) (N := 12) hx hb hts inX6_ hown hK hP 0 rfl rfl 3 (by decide) (hts (.fieldLink RX6 23 "GateWheel" "circuit" "LGateWheel$Circuit;") (List.mem_of_getElem? (i := 2) rfl)) (fun _ h9 => h9) rfl dX6_named_43 ?_
    refine lv_lload_n hx hb dX6_named_46 rfl (lv_at hl 1 rfl) ?_
    have hPc := hP.sub (ws' := [(h1, .inr (0, [.int 0, .int h1_1, .ref h1_2, .ref h1_3, .ref h1_4, .ref h1_5, .ref h1_6, .ref h1_7, .ref h1_8, .ref h1_9, .ref h1_10, .ref h1_11, .ref h1_12]))]) [1] rfl
    have hDc := hD.sub (ws' := [(h1, .inr (0, [.int 0, .int h1_1, .ref h1_2, .ref h1_3, .ref h1_4, .ref h1_5, .ref h1_6, .ref h1_7, .ref h1_8, .ref h1_9, .ref h1_10, .ref h1_11, .ref h1_12]))]) [1] (by decide) rfl
    have hKc := hK.sub (tys' := []) [] rfl
    have hFc := va_free (wc := [(h1, .inr (0, [.int 0, .int h1_1, .ref h1_2, .ref h1_3, .ref h1_4, .ref h1_5, .ref h1_6, .ref h1_7, .ref h1_8, .ref h1_9, .ref h1_10, .ref h1_11, .ref h1_12]))]) hD hS hA [1] rfl
    refine va_calli (va_runV (As := [.long x3]) (rest := []) ⟨hx, hb, hml, hown, hts⟩ (c_X0_find l dC dI h1 h1_1 h1_2 h1_3 h1_4 h1_5 h1_6 h1_7 h1_8 h1_9 h1_10 h1_11 h1_12 x3 s.heap.size) (cwV 1 hts gX6_named_X0_find rfl rfl rfl (by decide +kernel) ⟨Nat.le_of_ble_eq_true rfl, Nat.le_of_ble_eq_true rfl⟩) ⟨fun a U g mk q => by obtain ⟨q0, q1, qP, qK, qD⟩ := q; exact ⟨q0, q1, qP, va_K.moved (u := U) (U := U.calling g mk a) (Vm.Alike.refl U.vm) qK, qD⟩, va_recv hKc hPc (ci := 0) (q0 := 0) rfl rfl, fun U hU hW => ⟨rfl, by rw [hU], by rw [hU]; exact hPc, va_K.moved hW.alike hKc, hDc.weaken (fun _ _ _ _ => trivial)⟩⟩ rfl rfl hl.1 rfl (lv_room (Nat.le_of_ble_eq_true rfl)) dX6_named_47 ⟨Nat.le_of_ble_eq_true rfl, Nat.le_of_ble_eq_true rfl⟩) hS (fun q _ h => hFc q h) hFc (fun rx2 u t Hx1 locs ht hvm hw hB hz1 hk1 hS => ?_)
    obtain ⟨hP1, hK1, hD1⟩ := hB
    rw [ht] at hP1
    have hK1 := va_K.moved hvm.symm hK1
    obtain ⟨hP, hD⟩ := va_join (wr := [(h0, .inr (5, [.ref h0_0, .int h0_1, .ref h0_2, .ref h1, .ref h0_4, .ref h0_5, .ref h0_6, .ref h0_7, .ref h0_8, .int h0_9, .ref h0_10, .int h0_11]))]) (w1 := [(h1, .inr (0, [.int 0, .int h1_1, .ref h1_2, .ref h1_3, .ref h1_4, .ref h1_5, .ref h1_6, .ref h1_7, .ref h1_8, .ref h1_9, .ref h1_10, .ref h1_11, .ref h1_12]))]) hP hD [1] [0] rfl rfl (by decide) (by decide) hk1 hFc hP1 hD1
    have hK := (hK.sub (tys' := []) [] rfl).app hK1
    have hP : va_P (dC, dI) vwCl [(h0, .inr (5, [.ref h0_0, .int h0_1, .ref h0_2, .ref h1, .ref h0_4, .ref h0_5, .ref h0_6, .ref h0_7, .ref h0_8, .int h0_9, .ref h0_10, .int h0_11])), (h1, .inr (0, [.int 0, .int h1_1, .ref h1_2, .ref h1_3, .ref h1_4, .ref h1_5, .ref h1_6, .ref h1_7, .ref h1_8, .ref h1_9, .ref h1_10, .ref h1_11, .ref h1_12]))] Hx1 := hP
    have hD : va_D A [(h0, .inr (5, [.ref h0_0, .int h0_1, .ref h0_2, .ref h1, .ref h0_4, .ref h0_5, .ref h0_6, .ref h0_7, .ref h0_8, .int h0_9, .ref h0_10, .int h0_11])), (h1, .inr (0, [.int 0, .int h1_1, .ref h1_2, .ref h1_3, .ref h1_4, .ref h1_5, .ref h1_6, .ref h1_7, .ref h1_8, .ref h1_9, .ref h1_10, .ref h1_11, .ref h1_12]))] := hD
    have hK : va_K (dC, dI) vwCl [] s := hK
    obtain rfl : rx2 = (-1) := hw
    exact W.iret (v := (-1)) hx hb hr (fun t ht hW => ⟨⟨(-1), (), rfl, rfl, trivial⟩, hS.F ht⟩) hS.2.2 dX6_named_50
  | succ n ih =>
    obtain ⟨⟨hn, ex⟩, hl⟩ := hI
    refine lv_iload hx hb dX6_named_6 (lv_at hl 0 rfl) ?_
    refine lv_if_lt (tgt := 42) hx hb dX6_named_8 (by decide) (fun hc => absurd hc (by rw [ex]; exact fN_1 ⟨n, by omega⟩)) (fun _ => ?_)
    refine lv_lload_n hx hb dX6_named_11 rfl (lv_at hl 3 rfl) ?_
    refine lv_iload hx hb dX6_named_12 (lv_at hl 0 rfl) ?_
    refine lv_lushr hx hb dX6_named_14 rfl ?_
    refine lv_topl (fun zx3 ezx3 => ?_)
    refine lv_ldc2 hx hb hown (hts (.constantLong RX6 82 (255)) (List.mem_of_getElem? (i := 1) rfl)) dX6_named_15 ?_
    refine lv_land hx hb dX6_named_18 ?_
    refine lv_topl (fun zx4 ezx4 => ?_)
    refine lv_lstore (lv' := [(6, .long zx4), (5, .int x5), (3, .long x3), (0, .ref h0), (1, .long p1)]) hx hb dX6_named_19 hl (by decide) rfl (fun ls hl => ?_)
    refine lv_lload hx hb dX6_named_21 (lv_at hl 0 rfl) ?_
    refine lv_lconst (v := 0) hx hb dX6_named_23 (by decide) ?_
    refine W.lcmp hx hb dX6_named_24 ?_
    refine lv_topi (fun zx5 ezx5 => ?_)
    refine lv_if_eq (tgt := 36) hx hb dX6_named_25 (by decide) (fun cx6 => ?_) (fun cx6 => ?_)
    · obtain ⟨zx7, ezx7⟩ : ∃ y : Int32, y = x5 + Int32.ofInt (-8) := ⟨_, rfl⟩
      refine lv_iinc (v := zx7) (lv' := [(5, .int zx7), (6, .long zx4), (3, .long x3), (0, .ref h0), (1, .long p1)]) hx hb dX6_named_36 hl (k := 1) rfl ezx7.symm (by decide) rfl (fun ls hl => ?_)
      refine lv_goto (tgt := 6) hx hb dX6_named_39 (by decide) ?_
      exact ih _ _ _ ⟨⟨by omega, by rw [ezx7, ex]; exact fN_2 ⟨n, by omega⟩⟩, lv_sub hl [0, 2, 3, 4] rfl⟩
    · refine lv_lload_n hx hb dX6_named_28 rfl (lv_at hl 2 rfl) ?_
      refine lv_bipush (v := 8) hx hb dX6_named_29 (by decide) ?_
      refine lv_lshl hx hb dX6_named_31 rfl ?_
      refine lv_topl (fun zx8 ezx8 => ?_)
      refine lv_lload hx hb dX6_named_32 (lv_at hl 0 rfl) ?_
      refine lv_lor hx hb dX6_named_34 ?_
      refine lv_topl (fun zx9 ezx9 => ?_)
      refine lv_lstore_n (lv' := [(3, .long zx9), (6, .long zx4), (5, .int x5), (0, .ref h0), (1, .long p1)]) hx hb dX6_named_35 rfl hl (by decide) rfl (fun ls hl => ?_)
      obtain ⟨zx10, ezx10⟩ : ∃ y : Int32, y = x5 + Int32.ofInt (-8) := ⟨_, rfl⟩
      refine lv_iinc (v := zx10) (lv' := [(5, .int zx10), (3, .long zx9), (6, .long zx4), (0, .ref h0), (1, .long p1)]) hx hb dX6_named_36 hl (k := 2) rfl ezx10.symm (by decide) rfl (fun ls hl => ?_)
      refine lv_goto (tgt := 6) hx hb dX6_named_39 (by decide) ?_
      exact ih _ _ _ ⟨⟨by omega, by rw [ezx10, ex]; exact fN_2 ⟨n, by omega⟩⟩, lv_sub hl [0, 1, 3, 4] rfl⟩
