set_option maxHeartbeats 4000000 in
set_option maxRecDepth 100000 in
theorem s_X0_clear (l : Launch) (dC : Nat → ClassId) (dI : Nat → Nat → Nat) (h0 : Nat) (h0_0 : Int32) (h0_1 : Int32) (h0_2 : Nat) (h0_3 : Nat) (h0_4 : Nat) (h0_5 : Nat) (h0_6 : Nat) (h0_7 : Nat) (h0_8 : Nat) (h0_9 : Nat) (h0_10 : Nat) (h0_11 : Nat) (h0_12 : Nat) (sz : Nat) (hy_h0_0 : IV 0 60 h0_0) : Met l yX0_clear wsX0_clear ({ frames := 0, cells := 0, slots := 0, locals := 0 }) (va_Pc [.ref h0] (fun U => U.heap.size = sz ∧ va_P (dC, dI) vwCl [(h0, .inr (0, [.int h0_0, .int h0_1, .ref h0_2, .ref h0_3, .ref h0_4, .ref h0_5, .ref h0_6, .ref h0_7, .ref h0_8, .ref h0_9, .ref h0_10, .ref h0_11, .ref h0_12]))] U.heap ∧ va_K (dC, dI) vwCl [] U ∧ va_D (fun _ => True) [(h0, .inr (0, [.int h0_0, .int h0_1, .ref h0_2, .ref h0_3, .ref h0_4, .ref h0_5, .ref h0_6, .ref h0_7, .ref h0_8, .ref h0_9, .ref h0_10, .ref h0_11, .ref h0_12]))])) (va_Qv (fun (_ : Unit) => True) (fun (_ : Unit) (t : State) => va_P (dC, dI) vwCl [(h0, .inr (0, [.int 0, .int 0, .ref h0_2, .ref h0_3, .ref h0_4, .ref h0_5, .ref h0_6, .ref h0_7, .ref h0_8, .ref h0_9, .ref h0_10, .ref h0_11, .ref h0_12]))] t.heap ∧ va_K (dC, dI) vwCl [] t ∧ va_D (va_A [(h0, .inr (0, [.int h0_0, .int h0_1, .ref h0_2, .ref h0_3, .ref h0_4, .ref h0_5, .ref h0_6, .ref h0_7, .ref h0_8, .ref h0_9, .ref h0_10, .ref h0_11, .ref h0_12]))] sz) [(h0, .inr (0, [.int 0, .int 0, .ref h0_2, .ref h0_3, .ref h0_4, .ref h0_5, .ref h0_6, .ref h0_7, .ref h0_8, .ref h0_9, .ref h0_10, .ref h0_11, .ref h0_12]))]) (va_A [(h0, .inr (0, [.int h0_0, .int h0_1, .ref h0_2, .ref h0_3, .ref h0_4, .ref h0_5, .ref h0_6, .ref h0_7, .ref h0_8, .ref h0_9, .ref h0_10, .ref h0_11, .ref h0_12]))] sz)) 0 0 (va_A [(h0, .inr (0, [.int h0_0, .int h0_1, .ref h0_2, .ref h0_3, .ref h0_4, .ref h0_5, .ref h0_6, .ref h0_7, .ref h0_8, .ref h0_9, .ref h0_10, .ref h0_11, .ref h0_12]))] sz) := by
  refine Met.ofW (cc := cX0_clear) (maxL := 1) (ret := none) (by decide +kernel) rfl ?_
  intro p e s m args below meth c s₁ B hml hv
  obtain ⟨rfl, hsz, hP, hK, hD0⟩ := hv
  have hx := B.exec
  have hb := B.bytes
  have hr := B.returns
  have hts := atoms_spec (ws := wsX0_clear) B.pre
  have hown : s.vm.findClass RX0 = some m.cls := findClass_of_methodNamed B.named
  have hlocks := B.notSynchronized
  have inX0_ : ∀ w ∈ wsX00, w ∈ wsX0_clear := fun _ h => List.mem_cons_of_mem _ (List.mem_append_right _ h)
  subst hsz
  have hD := hD0.self (sz := s.heap.size)
  generalize hAe : va_A [(h0, .inr (0, [.int h0_0, .int h0_1, .ref h0_2, .ref h0_3, .ref h0_4, .ref h0_5, .ref h0_6, .ref h0_7, .ref h0_8, .ref h0_9, .ref h0_10, .ref h0_11, .ref h0_12]))] s.heap.size = A at hD ⊢
  have hA : ∀ q : Nat, s.heap.size ≤ q → A q := fun q h => by rw [← hAe]; exact Or.inr h
  have hS : va_S A s.heap s.heap [] := va_S.rf
  have hP : va_P (dC, dI) vwCl [(h0, .inr (0, [.int h0_0, .int h0_1, .ref h0_2, .ref h0_3, .ref h0_4, .ref h0_5, .ref h0_6, .ref h0_7, .ref h0_8, .ref h0_9, .ref h0_10, .ref h0_11, .ref h0_12]))] s.heap := hP
  have hl := lv_entry ([.ref h0]) (n := 1) (Nat.le_of_ble_eq_true rfl)
  rw [lg_entry_eq]
  generalize (lg_sl ([.ref h0]) ++ List.replicate (1 - (lg_sl ([.ref h0])).length) Slot.unset).toArray = ls at hl ⊢
  have hl : lv_has ls 1 [(0, .ref h0)] := hl
  refine lv_aload_n hx hb dX0_clear_0 rfl (lv_at hl 0 rfl) ?_
  refine lv_iconst (v := 0) hx hb dX0_clear_1 (by decide) ?_
  refine va_put (D := (dC, dI)) (ci := 0) (v := .int 0) (ty := .int) (C := RX0) (T := TX0) (N := 13) hx hb hts inX0_ tyX0 tyX0_ok nmX0 hown hK hP hD hS 0 rfl rfl 0 (by decide) (hts (.fieldLink RX0 46 "GateWheel$Circuit" "count" "I") (List.mem_of_getElem? (i := 1) rfl)) (fun _ h9 => h9) rfl (by decide +kernel) rfl rfl (Nat.le_of_ble_eq_true rfl) dX0_clear_2 (fun Hy1 locs hP hD hS => ?_)
  have hP : va_P (dC, dI) vwCl [(h0, .inr (0, [.int 0, .int h0_1, .ref h0_2, .ref h0_3, .ref h0_4, .ref h0_5, .ref h0_6, .ref h0_7, .ref h0_8, .ref h0_9, .ref h0_10, .ref h0_11, .ref h0_12]))] Hy1 := hP
  have hD : va_D A [(h0, .inr (0, [.int 0, .int h0_1, .ref h0_2, .ref h0_3, .ref h0_4, .ref h0_5, .ref h0_6, .ref h0_7, .ref h0_8, .ref h0_9, .ref h0_10, .ref h0_11, .ref h0_12]))] := hD
  refine lv_aload_n hx hb dX0_clear_5 rfl (lv_at hl 0 rfl) ?_
  refine lv_iconst (v := 0) hx hb dX0_clear_6 (by decide) ?_
  refine va_put (D := (dC, dI)) (ci := 0) (v := .int 0) (ty := .int) (C := RX0) (T := TX0) (N := 13) hx hb hts inX0_ tyX0 tyX0_ok nmX0 hown hK hP hD hS 0 rfl rfl 1 (by decide) (hts (.fieldLink RX0 50 "GateWheel$Circuit" "registers" "I") (List.mem_of_getElem? (i := 2) rfl)) (fun _ h9 => h9) rfl (by decide +kernel) rfl rfl (Nat.le_of_ble_eq_true rfl) dX0_clear_7 (fun Hy2 locs hP hD hS => ?_)
  have hP : va_P (dC, dI) vwCl [(h0, .inr (0, [.int 0, .int 0, .ref h0_2, .ref h0_3, .ref h0_4, .ref h0_5, .ref h0_6, .ref h0_7, .ref h0_8, .ref h0_9, .ref h0_10, .ref h0_11, .ref h0_12]))] Hy2 := hP
  have hD : va_D A [(h0, .inr (0, [.int 0, .int 0, .ref h0_2, .ref h0_3, .ref h0_4, .ref h0_5, .ref h0_6, .ref h0_7, .ref h0_8, .ref h0_9, .ref h0_10, .ref h0_11, .ref h0_12]))] := hD
  exact W.vret hx hb hr (fun t ht hW => ⟨⟨(), rfl, trivial, by rw [ht]; exact hP, va_K.moved hW.alike hK, hD⟩, hS.F ht⟩) hS.2.2 dX0_clear_10

set_option maxHeartbeats 4000000 in
set_option maxRecDepth 100000 in
theorem s_X0_has (l : Launch) (dC : Nat → ClassId) (dI : Nat → Nat → Nat) (h0 : Nat) (h0_0 : Int32) (h0_1 : Int32) (h0_2 : Nat) (h0_3 : Nat) (h0_4 : Nat) (h0_5 : Nat) (h0_6 : Nat) (h0_7 : Nat) (h0_8 : Nat) (h0_9 : Nat) (h0_10 : Nat) (h0_11 : Nat) (h0_12 : Nat) (p1 : Int32) (sz : Nat) (hy_h0_0 : IV 0 60 h0_0) : Met l yX0_has wsX0_has ({ frames := 0, cells := 0, slots := 0, locals := 0 }) (va_Pc [.ref h0, .int p1] (fun U => U.heap.size = sz ∧ va_P (dC, dI) vwCl [(h0, .inr (0, [.int h0_0, .int h0_1, .ref h0_2, .ref h0_3, .ref h0_4, .ref h0_5, .ref h0_6, .ref h0_7, .ref h0_8, .ref h0_9, .ref h0_10, .ref h0_11, .ref h0_12]))] U.heap ∧ va_K (dC, dI) vwCl [] U ∧ va_D (fun _ => True) [(h0, .inr (0, [.int h0_0, .int h0_1, .ref h0_2, .ref h0_3, .ref h0_4, .ref h0_5, .ref h0_6, .ref h0_7, .ref h0_8, .ref h0_9, .ref h0_10, .ref h0_11, .ref h0_12]))])) (va_Qi (fun (r : Int32) (_ : Unit) => IV 0 1 r ∧ (¬ r = 0 → IV 0 59 p1)) (fun (_ : Unit) (t : State) => va_P (dC, dI) vwCl [(h0, .inr (0, [.int h0_0, .int h0_1, .ref h0_2, .ref h0_3, .ref h0_4, .ref h0_5, .ref h0_6, .ref h0_7, .ref h0_8, .ref h0_9, .ref h0_10, .ref h0_11, .ref h0_12]))] t.heap ∧ va_K (dC, dI) vwCl [] t ∧ va_D (va_A [(h0, .inr (0, [.int h0_0, .int h0_1, .ref h0_2, .ref h0_3, .ref h0_4, .ref h0_5, .ref h0_6, .ref h0_7, .ref h0_8, .ref h0_9, .ref h0_10, .ref h0_11, .ref h0_12]))] sz) [(h0, .inr (0, [.int h0_0, .int h0_1, .ref h0_2, .ref h0_3, .ref h0_4, .ref h0_5, .ref h0_6, .ref h0_7, .ref h0_8, .ref h0_9, .ref h0_10, .ref h0_11, .ref h0_12]))]) (va_A [(h0, .inr (0, [.int h0_0, .int h0_1, .ref h0_2, .ref h0_3, .ref h0_4, .ref h0_5, .ref h0_6, .ref h0_7, .ref h0_8, .ref h0_9, .ref h0_10, .ref h0_11, .ref h0_12]))] sz)) 0 0 (va_A [(h0, .inr (0, [.int h0_0, .int h0_1, .ref h0_2, .ref h0_3, .ref h0_4, .ref h0_5, .ref h0_6, .ref h0_7, .ref h0_8, .ref h0_9, .ref h0_10, .ref h0_11, .ref h0_12]))] sz) := by
  refine Met.ofW (cc := cX0_has) (maxL := 2) (ret := (some .boolean)) (by decide +kernel) rfl ?_
  intro p e s m args below meth c s₁ B hml hv
  obtain ⟨rfl, hsz, hP, hK, hD0⟩ := hv
  have hx := B.exec
  have hb := B.bytes
  have hr := B.returns
  have hts := atoms_spec (ws := wsX0_has) B.pre
  have hown : s.vm.findClass RX0 = some m.cls := findClass_of_methodNamed B.named
  have hlocks := B.notSynchronized
  have inX0_ : ∀ w ∈ wsX00, w ∈ wsX0_has := fun _ h => List.mem_cons_of_mem _ (List.mem_append_right _ h)
  subst hsz
  have hD := hD0.self (sz := s.heap.size)
  generalize hAe : va_A [(h0, .inr (0, [.int h0_0, .int h0_1, .ref h0_2, .ref h0_3, .ref h0_4, .ref h0_5, .ref h0_6, .ref h0_7, .ref h0_8, .ref h0_9, .ref h0_10, .ref h0_11, .ref h0_12]))] s.heap.size = A at hD ⊢
  have hA : ∀ q : Nat, s.heap.size ≤ q → A q := fun q h => by rw [← hAe]; exact Or.inr h
  have hS : va_S A s.heap s.heap [] := va_S.rf
  have hP : va_P (dC, dI) vwCl [(h0, .inr (0, [.int h0_0, .int h0_1, .ref h0_2, .ref h0_3, .ref h0_4, .ref h0_5, .ref h0_6, .ref h0_7, .ref h0_8, .ref h0_9, .ref h0_10, .ref h0_11, .ref h0_12]))] s.heap := hP
  have hl := lv_entry ([.ref h0, .int p1]) (n := 2) (Nat.le_of_ble_eq_true rfl)
  rw [lg_entry_eq]
  generalize (lg_sl ([.ref h0, .int p1]) ++ List.replicate (2 - (lg_sl ([.ref h0, .int p1])).length) Slot.unset).toArray = ls at hl ⊢
  have hl : lv_has ls 2 [(0, .ref h0), (1, .int p1)] := hl
  refine lv_iload_n hx hb dX0_has_0 rfl (lv_at hl 1 rfl) ?_
  refine lv_if_lt (tgt := 16) hx hb dX0_has_1 (by decide) (fun cy1 => ?_) (fun cy1 => ?_)
  · have h_cy1 := cy1
    have by2 : IV (-2147483648) (-1) p1 := IV_lt_l cy1 (IV_top p1) (IV_mk (a := 0) (b := 0) (by decide) (by decide)) (by decide) (by decide)
    refine lv_iconst (v := 0) hx hb dX0_has_16 (by decide) ?_
    exact W.zret (v := 0) hx hb hr (by decide) (fun t ht hW => ⟨⟨0, (), rfl, ⟨(IV_mk (by decide) (by decide)), fun h => absurd rfl h⟩, by rw [ht]; exact hP, va_K.moved hW.alike hK, hD⟩, hS.F ht⟩) hS.2.2 dX0_has_17
  · have h_cy1 := cy1
    have by3 : IV 0 2147483647 p1 := IV_nlt_l cy1 (IV_top p1) (IV_mk (a := 0) (b := 0) (by decide) (by decide)) (by decide) (by decide)
    refine lv_iload_n hx hb dX0_has_4 rfl (lv_at hl 1 rfl) ?_
    refine lv_aload_n hx hb dX0_has_5 rfl (lv_at hl 0 rfl) ?_
    refine va_get (D := (dC, dI)) (ci := 0) (v := .int h0_0) (C := RX0) (T := TX0) (N := 13) hx hb hts inX0_ hown hK hP 0 rfl rfl 0 (by decide) (hts (.fieldLink RX0 46 "GateWheel$Circuit" "count" "I") (List.mem_of_getElem? (i := 1) rfl)) (fun _ h9 => h9) rfl dX0_has_6 ?_
    refine lv_icmp_ge (tgt := 16) hx hb dX0_has_9 (by decide) (fun cy4 => ?_) (fun cy4 => ?_)
    · have h_cy4 := cy4
      refine lv_iconst (v := 0) hx hb dX0_has_16 (by decide) ?_
      exact W.zret (v := 0) hx hb hr (by decide) (fun t ht hW => ⟨⟨0, (), rfl, ⟨(IV_mk (by decide) (by decide)), fun h => absurd rfl h⟩, by rw [ht]; exact hP, va_K.moved hW.alike hK, hD⟩, hS.F ht⟩) hS.2.2 dX0_has_17
    · have h_cy4 := cy4
      have by5 : IV 1 60 h0_0 := IV_nle_l cy4 hy_h0_0 by3 (by decide) (by decide)
      have by6 : IV 0 59 p1 := IV_nle_r cy4 hy_h0_0 by3 (by decide) (by decide)
      refine lv_iconst (v := 1) hx hb dX0_has_12 (by decide) ?_
      refine lv_goto (tgt := 17) hx hb dX0_has_13 (by decide) ?_
      exact W.zret (v := 1) hx hb hr (by decide) (fun t ht hW => ⟨⟨1, (), rfl, ⟨(IV_mk (by decide) (by decide)), fun _ => by6⟩, by rw [ht]; exact hP, va_K.moved hW.alike hK, hD⟩, hS.F ht⟩) hS.2.2 dX0_has_17

set_option maxHeartbeats 4000000 in
set_option maxRecDepth 100000 in
theorem s_X0_isKind (l : Launch) (dC : Nat → ClassId) (dI : Nat → Nat → Nat) (h0 : Nat) (h0_4 : Nat) (h0_0 : Int32) (h0_1 : Int32) (h0_2 : Nat) (h0_3 : Nat) (h0_5 : Nat) (h0_6 : Nat) (h0_7 : Nat) (h0_8 : Nat) (h0_9 : Nat) (h0_10 : Nat) (h0_11 : Nat) (h0_12 : Nat) (yh0_4 : ClassId) (fh0_4 : Nat → Int32) (p1 : Int32) (p2 : Int32) (sz : Nat) (hy_h0_0 : IV 0 60 h0_0) : Met l yX0_isKind wsX0_isKind ({ frames := 1, cells := 0, slots := 0, locals := 21 }) (va_Pc [.ref h0, .int p1, .int p2] (fun U => U.heap.size = sz ∧ va_P (dC, dI) vwCl [(h0, .inr (0, [.int h0_0, .int h0_1, .ref h0_2, .ref h0_3, .ref h0_4, .ref h0_5, .ref h0_6, .ref h0_7, .ref h0_8, .ref h0_9, .ref h0_10, .ref h0_11, .ref h0_12])), (h0_4, .inl (yh0_4, 60, .inl fh0_4))] U.heap ∧ va_K (dC, dI) vwCl [(yh0_4, .int)] U ∧ va_D (fun _ => True) [(h0, .inr (0, [.int h0_0, .int h0_1, .ref h0_2, .ref h0_3, .ref h0_4, .ref h0_5, .ref h0_6, .ref h0_7, .ref h0_8, .ref h0_9, .ref h0_10, .ref h0_11, .ref h0_12])), (h0_4, .inl (yh0_4, 60, .inl fh0_4))])) (va_Qi (fun (r : Int32) (_ : Unit) => IV 0 1 r ∧ (¬ r = 0 → IV 0 59 p1)) (fun (_ : Unit) (t : State) => va_P (dC, dI) vwCl [(h0, .inr (0, [.int h0_0, .int h0_1, .ref h0_2, .ref h0_3, .ref h0_4, .ref h0_5, .ref h0_6, .ref h0_7, .ref h0_8, .ref h0_9, .ref h0_10, .ref h0_11, .ref h0_12])), (h0_4, .inl (yh0_4, 60, .inl fh0_4))] t.heap ∧ va_K (dC, dI) vwCl [(yh0_4, .int)] t ∧ va_D (va_A [(h0, .inr (0, [.int h0_0, .int h0_1, .ref h0_2, .ref h0_3, .ref h0_4, .ref h0_5, .ref h0_6, .ref h0_7, .ref h0_8, .ref h0_9, .ref h0_10, .ref h0_11, .ref h0_12])), (h0_4, .inl (yh0_4, 60, .inl fh0_4))] sz) [(h0, .inr (0, [.int h0_0, .int h0_1, .ref h0_2, .ref h0_3, .ref h0_4, .ref h0_5, .ref h0_6, .ref h0_7, .ref h0_8, .ref h0_9, .ref h0_10, .ref h0_11, .ref h0_12])), (h0_4, .inl (yh0_4, 60, .inl fh0_4))]) (va_A [(h0, .inr (0, [.int h0_0, .int h0_1, .ref h0_2, .ref h0_3, .ref h0_4, .ref h0_5, .ref h0_6, .ref h0_7, .ref h0_8, .ref h0_9, .ref h0_10, .ref h0_11, .ref h0_12])), (h0_4, .inl (yh0_4, 60, .inl fh0_4))] sz)) 0 0 (va_A [(h0, .inr (0, [.int h0_0, .int h0_1, .ref h0_2, .ref h0_3, .ref h0_4, .ref h0_5, .ref h0_6, .ref h0_7, .ref h0_8, .ref h0_9, .ref h0_10, .ref h0_11, .ref h0_12])), (h0_4, .inl (yh0_4, 60, .inl fh0_4))] sz) := by
  refine Met.ofW (cc := cX0_isKind) (maxL := 3) (ret := (some .boolean)) (by decide +kernel) rfl ?_
  intro p e s m args below meth c s₁ B hml hv
  obtain ⟨rfl, hsz, hP, hK, hD0⟩ := hv
  have hx := B.exec
  have hb := B.bytes
  have hr := B.returns
  have hts := atoms_spec (ws := wsX0_isKind) B.pre
  have hown : s.vm.findClass RX0 = some m.cls := findClass_of_methodNamed B.named
  have hlocks := B.notSynchronized
  have inX0_ : ∀ w ∈ wsX00, w ∈ wsX0_isKind := fun _ h => List.mem_cons_of_mem _ (List.mem_append_right _ h)
  subst hsz
  have hD := hD0.self (sz := s.heap.size)
  generalize hAe : va_A [(h0, .inr (0, [.int h0_0, .int h0_1, .ref h0_2, .ref h0_3, .ref h0_4, .ref h0_5, .ref h0_6, .ref h0_7, .ref h0_8, .ref h0_9, .ref h0_10, .ref h0_11, .ref h0_12])), (h0_4, .inl (yh0_4, 60, .inl fh0_4))] s.heap.size = A at hD ⊢
  have hA : ∀ q : Nat, s.heap.size ≤ q → A q := fun q h => by rw [← hAe]; exact Or.inr h
  have hS : va_S A s.heap s.heap [] := va_S.rf
  have hP : va_P (dC, dI) vwCl [(h0, .inr (0, [.int h0_0, .int h0_1, .ref h0_2, .ref h0_3, .ref h0_4, .ref h0_5, .ref h0_6, .ref h0_7, .ref h0_8, .ref h0_9, .ref h0_10, .ref h0_11, .ref h0_12])), (h0_4, .inl (yh0_4, 60, .inl fh0_4))] s.heap := hP
  have hl := lv_entry ([.ref h0, .int p1, .int p2]) (n := 3) (Nat.le_of_ble_eq_true rfl)
  rw [lg_entry_eq]
  generalize (lg_sl ([.ref h0, .int p1, .int p2]) ++ List.replicate (3 - (lg_sl ([.ref h0, .int p1, .int p2])).length) Slot.unset).toArray = ls at hl ⊢
  have hl : lv_has ls 3 [(0, .ref h0), (1, .int p1), (2, .int p2)] := hl
  refine lv_aload_n hx hb dX0_isKind_0 rfl (lv_at hl 0 rfl) ?_
  refine lv_iload_n hx hb dX0_isKind_1 rfl (lv_at hl 1 rfl) ?_
  have hPc := hP.sub (ws' := [(h0, .inr (0, [.int h0_0, .int h0_1, .ref h0_2, .ref h0_3, .ref h0_4, .ref h0_5, .ref h0_6, .ref h0_7, .ref h0_8, .ref h0_9, .ref h0_10, .ref h0_11, .ref h0_12]))]) [0] rfl
  have hDc := hD.sub (ws' := [(h0, .inr (0, [.int h0_0, .int h0_1, .ref h0_2, .ref h0_3, .ref h0_4, .ref h0_5, .ref h0_6, .ref h0_7, .ref h0_8, .ref h0_9, .ref h0_10, .ref h0_11, .ref h0_12]))]) [0] (by decide) rfl
  have hKc := hK.sub (tys' := []) [] rfl
  have hFc := va_free (wc := [(h0, .inr (0, [.int h0_0, .int h0_1, .ref h0_2, .ref h0_3, .ref h0_4, .ref h0_5, .ref h0_6, .ref h0_7, .ref h0_8, .ref h0_9, .ref h0_10, .ref h0_11, .ref h0_12]))]) hD hS hA [0] rfl
  refine va_calli (va_runV (As := [.int p1]) (rest := []) ⟨hx, hb, hml, hown, hts⟩ (s_X0_has l dC dI h0 h0_0 h0_1 h0_2 h0_3 h0_4 h0_5 h0_6 h0_7 h0_8 h0_9 h0_10 h0_11 h0_12 p1 s.heap.size hy_h0_0) (cwV 1 hts gX0_isKind_X0_has rfl rfl rfl (by decide +kernel) ⟨Nat.le_of_ble_eq_true rfl, Nat.le_of_ble_eq_true rfl⟩) ⟨fun a U g mk q => by obtain ⟨q0, q1, qP, qK, qD⟩ := q; exact ⟨q0, q1, qP, va_K.moved (u := U) (U := U.calling g mk a) (Vm.Alike.refl U.vm) qK, qD⟩, va_recv hKc hPc (ci := 0) (q0 := 0) rfl rfl, fun U hU hW => ⟨rfl, by rw [hU], by rw [hU]; exact hPc, va_K.moved hW.alike hKc, hDc.weaken (fun _ _ _ _ => trivial)⟩⟩ rfl rfl hl.1 rfl (lv_room (Nat.le_of_ble_eq_true rfl)) dX0_isKind_2 ⟨Nat.le_of_ble_eq_true rfl, Nat.le_of_ble_eq_true rfl⟩) hS (fun q _ h => hFc q h) hFc (fun ry2 u t Hy1 locs ht hvm hw hB hz1 hk1 hS => ?_)
  obtain ⟨hP1, hK1, hD1⟩ := hB
  rw [ht] at hP1
  obtain ⟨hP, hD⟩ := va_join (wr := [(h0_4, .inl (yh0_4, 60, .inl fh0_4))]) (w1 := [(h0, .inr (0, [.int h0_0, .int h0_1, .ref h0_2, .ref h0_3, .ref h0_4, .ref h0_5, .ref h0_6, .ref h0_7, .ref h0_8, .ref h0_9, .ref h0_10, .ref h0_11, .ref h0_12]))]) hP hD [0] [1] rfl rfl (by decide) (by decide) hk1 hFc hP1 hD1
  have hP := hP.sub (ws' := [(h0, .inr (0, [.int h0_0, .int h0_1, .ref h0_2, .ref h0_3, .ref h0_4, .ref h0_5, .ref h0_6, .ref h0_7, .ref h0_8, .ref h0_9, .ref h0_10, .ref h0_11, .ref h0_12])), (h0_4, .inl (yh0_4, 60, .inl fh0_4))]) [1, 0] rfl
  have hD := hD.sub (ws' := [(h0, .inr (0, [.int h0_0, .int h0_1, .ref h0_2, .ref h0_3, .ref h0_4, .ref h0_5, .ref h0_6, .ref h0_7, .ref h0_8, .ref h0_9, .ref h0_10, .ref h0_11, .ref h0_12])), (h0_4, .inl (yh0_4, 60, .inl fh0_4))]) [1, 0] (by decide) rfl
  have hP : va_P (dC, dI) vwCl [(h0, .inr (0, [.int h0_0, .int h0_1, .ref h0_2, .ref h0_3, .ref h0_4, .ref h0_5, .ref h0_6, .ref h0_7, .ref h0_8, .ref h0_9, .ref h0_10, .ref h0_11, .ref h0_12])), (h0_4, .inl (yh0_4, 60, .inl fh0_4))] Hy1 := hP
  have hD : va_D A [(h0, .inr (0, [.int h0_0, .int h0_1, .ref h0_2, .ref h0_3, .ref h0_4, .ref h0_5, .ref h0_6, .ref h0_7, .ref h0_8, .ref h0_9, .ref h0_10, .ref h0_11, .ref h0_12])), (h0_4, .inl (yh0_4, 60, .inl fh0_4))] := hD
  obtain ⟨by3, hqy4⟩ : IV 0 1 ry2 ∧ (¬ ry2 = 0 → IV 0 59 p1) := hw
  refine lv_if_eq (tgt := 22) hx hb dX0_isKind_5 (by decide) (fun cy5 => ?_) (fun cy5 => ?_)
  · have h_cy5 := cy5
    have by6 : IV 0 0 ry2 := IV_eq_l cy5 by3 (IV_mk (a := 0) (b := 0) (by decide) (by decide)) (by decide) (by decide)
    refine lv_iconst (v := 0) hx hb dX0_isKind_22 (by decide) ?_
    exact W.zret (v := 0) hx hb hr (by decide) (fun t ht hW => ⟨⟨0, (), rfl, ⟨(IV_mk (by decide) (by decide)), fun h => absurd rfl h⟩, by rw [ht]; exact hP, va_K.moved hW.alike hK, hD⟩, hS.F ht⟩) hS.2.2 dX0_isKind_23
  · have h_cy5 := cy5
    have by7 : IV 0 59 p1 := hqy4 cy5
    have by8 : IV 1 1 ry2 := IV_ne_lo cy5 by3 (IV_mk (a := 0) (b := 0) (by decide) (by decide)) (by decide) (by decide) (by decide)
    refine lv_aload_n hx hb dX0_isKind_8 rfl (lv_at hl 0 rfl) ?_
    refine va_get (D := (dC, dI)) (ci := 0) (v := .ref h0_4) (C := RX0) (T := TX0) (N := 13) hx hb hts inX0_ hown hK hP 0 rfl rfl 4 (by decide) (hts (.fieldLink RX0 19 "GateWheel$Circuit" "kinds" "[I") (List.mem_of_getElem? (i := 1) rfl)) (fun _ h9 => h9) rfl dX0_isKind_9 ?_
    refine lv_iload_n hx hb dX0_isKind_12 rfl (lv_at hl 1 rfl) ?_
    refine va_iald hx hb hK hP 1 0 rfl rfl (IV_in by7 (by decide) (by decide)) dX0_isKind_13 ?_
    refine lv_topi (fun zy9 ezy9 => ?_)
    refine lv_iload_n hx hb dX0_isKind_14 rfl (lv_at hl 2 rfl) ?_
    refine lv_icmp_ne (tgt := 22) hx hb dX0_isKind_15 (by decide) (fun cy10 => ?_) (fun cy10 => ?_)
    · have h_cy10 := cy10
      refine lv_iconst (v := 0) hx hb dX0_isKind_22 (by decide) ?_
      exact W.zret (v := 0) hx hb hr (by decide) (fun t ht hW => ⟨⟨0, (), rfl, ⟨(IV_mk (by decide) (by decide)), fun h => absurd rfl h⟩, by rw [ht]; exact hP, va_K.moved hW.alike hK, hD⟩, hS.F ht⟩) hS.2.2 dX0_isKind_23
    · have h_cy10 := cy10
      refine lv_iconst (v := 1) hx hb dX0_isKind_18 (by decide) ?_
      refine lv_goto (tgt := 23) hx hb dX0_isKind_19 (by decide) ?_
      exact W.zret (v := 1) hx hb hr (by decide) (fun t ht hW => ⟨⟨1, (), rfl, ⟨(IV_mk (by decide) (by decide)), fun _ => by7⟩, by rw [ht]; exact hP, va_K.moved hW.alike hK, hD⟩, hS.F ht⟩) hS.2.2 dX0_isKind_23

set_option maxHeartbeats 4000000 in
set_option maxRecDepth 100000 in
theorem s_X0_isSource (l : Launch) (dC : Nat → ClassId) (dI : Nat → Nat → Nat) (h0 : Nat) (h0_4 : Nat) (h0_0 : Int32) (h0_1 : Int32) (h0_2 : Nat) (h0_3 : Nat) (h0_5 : Nat) (h0_6 : Nat) (h0_7 : Nat) (h0_8 : Nat) (h0_9 : Nat) (h0_10 : Nat) (h0_11 : Nat) (h0_12 : Nat) (yh0_4 : ClassId) (fh0_4 : Nat → Int32) (p1 : Int32) (sz : Nat) (hy_h0_0 : IV 0 60 h0_0) : Met l yX0_isSource wsX0_isSource ({ frames := 2, cells := 0, slots := 0, locals := 43 }) (va_Pc [.ref h0, .int p1] (fun U => U.heap.size = sz ∧ va_P (dC, dI) vwCl [(h0, .inr (0, [.int h0_0, .int h0_1, .ref h0_2, .ref h0_3, .ref h0_4, .ref h0_5, .ref h0_6, .ref h0_7, .ref h0_8, .ref h0_9, .ref h0_10, .ref h0_11, .ref h0_12])), (h0_4, .inl (yh0_4, 60, .inl fh0_4))] U.heap ∧ va_K (dC, dI) vwCl [(yh0_4, .int)] U ∧ va_D (fun _ => True) [(h0, .inr (0, [.int h0_0, .int h0_1, .ref h0_2, .ref h0_3, .ref h0_4, .ref h0_5, .ref h0_6, .ref h0_7, .ref h0_8, .ref h0_9, .ref h0_10, .ref h0_11, .ref h0_12])), (h0_4, .inl (yh0_4, 60, .inl fh0_4))])) (va_Qi (fun (r : Int32) (_ : Unit) => IV 0 1 r ∧ (¬ r = 0 → IV 0 59 p1)) (fun (_ : Unit) (t : State) => va_P (dC, dI) vwCl [(h0, .inr (0, [.int h0_0, .int h0_1, .ref h0_2, .ref h0_3, .ref h0_4, .ref h0_5, .ref h0_6, .ref h0_7, .ref h0_8, .ref h0_9, .ref h0_10, .ref h0_11, .ref h0_12])), (h0_4, .inl (yh0_4, 60, .inl fh0_4))] t.heap ∧ va_K (dC, dI) vwCl [(yh0_4, .int)] t ∧ va_D (va_A [(h0, .inr (0, [.int h0_0, .int h0_1, .ref h0_2, .ref h0_3, .ref h0_4, .ref h0_5, .ref h0_6, .ref h0_7, .ref h0_8, .ref h0_9, .ref h0_10, .ref h0_11, .ref h0_12])), (h0_4, .inl (yh0_4, 60, .inl fh0_4))] sz) [(h0, .inr (0, [.int h0_0, .int h0_1, .ref h0_2, .ref h0_3, .ref h0_4, .ref h0_5, .ref h0_6, .ref h0_7, .ref h0_8, .ref h0_9, .ref h0_10, .ref h0_11, .ref h0_12])), (h0_4, .inl (yh0_4, 60, .inl fh0_4))]) (va_A [(h0, .inr (0, [.int h0_0, .int h0_1, .ref h0_2, .ref h0_3, .ref h0_4, .ref h0_5, .ref h0_6, .ref h0_7, .ref h0_8, .ref h0_9, .ref h0_10, .ref h0_11, .ref h0_12])), (h0_4, .inl (yh0_4, 60, .inl fh0_4))] sz)) 0 0 (va_A [(h0, .inr (0, [.int h0_0, .int h0_1, .ref h0_2, .ref h0_3, .ref h0_4, .ref h0_5, .ref h0_6, .ref h0_7, .ref h0_8, .ref h0_9, .ref h0_10, .ref h0_11, .ref h0_12])), (h0_4, .inl (yh0_4, 60, .inl fh0_4))] sz) := by
  refine Met.ofW (cc := cX0_isSource) (maxL := 2) (ret := (some .boolean)) (by decide +kernel) rfl ?_
  intro p e s m args below meth c s₁ B hml hv
  obtain ⟨rfl, hsz, hP, hK, hD0⟩ := hv
  have hx := B.exec
  have hb := B.bytes
  have hr := B.returns
  have hts := atoms_spec (ws := wsX0_isSource) B.pre
  have hown : s.vm.findClass RX0 = some m.cls := findClass_of_methodNamed B.named
  have hlocks := B.notSynchronized
  subst hsz
  have hD := hD0.self (sz := s.heap.size)
  generalize hAe : va_A [(h0, .inr (0, [.int h0_0, .int h0_1, .ref h0_2, .ref h0_3, .ref h0_4, .ref h0_5, .ref h0_6, .ref h0_7, .ref h0_8, .ref h0_9, .ref h0_10, .ref h0_11, .ref h0_12])), (h0_4, .inl (yh0_4, 60, .inl fh0_4))] s.heap.size = A at hD ⊢
  have hA : ∀ q : Nat, s.heap.size ≤ q → A q := fun q h => by rw [← hAe]; exact Or.inr h
  have hS : va_S A s.heap s.heap [] := va_S.rf
  have hP : va_P (dC, dI) vwCl [(h0, .inr (0, [.int h0_0, .int h0_1, .ref h0_2, .ref h0_3, .ref h0_4, .ref h0_5, .ref h0_6, .ref h0_7, .ref h0_8, .ref h0_9, .ref h0_10, .ref h0_11, .ref h0_12])), (h0_4, .inl (yh0_4, 60, .inl fh0_4))] s.heap := hP
  have hl := lv_entry ([.ref h0, .int p1]) (n := 2) (Nat.le_of_ble_eq_true rfl)
  rw [lg_entry_eq]
  generalize (lg_sl ([.ref h0, .int p1]) ++ List.replicate (2 - (lg_sl ([.ref h0, .int p1])).length) Slot.unset).toArray = ls at hl ⊢
  have hl : lv_has ls 2 [(0, .ref h0), (1, .int p1)] := hl
  refine lv_aload_n hx hb dX0_isSource_0 rfl (lv_at hl 0 rfl) ?_
  refine lv_iload_n hx hb dX0_isSource_1 rfl (lv_at hl 1 rfl) ?_
  refine lv_iconst (v := 0) hx hb dX0_isSource_2 (by decide) ?_
  have hPc := hP.sub (ws' := [(h0, .inr (0, [.int h0_0, .int h0_1, .ref h0_2, .ref h0_3, .ref h0_4, .ref h0_5, .ref h0_6, .ref h0_7, .ref h0_8, .ref h0_9, .ref h0_10, .ref h0_11, .ref h0_12])), (h0_4, .inl (yh0_4, 60, .inl fh0_4))]) [0, 1] rfl
  have hDc := hD.sub (ws' := [(h0, .inr (0, [.int h0_0, .int h0_1, .ref h0_2, .ref h0_3, .ref h0_4, .ref h0_5, .ref h0_6, .ref h0_7, .ref h0_8, .ref h0_9, .ref h0_10, .ref h0_11, .ref h0_12])), (h0_4, .inl (yh0_4, 60, .inl fh0_4))]) [0, 1] (by decide) rfl
  have hKc := hK.sub (tys' := [(yh0_4, .int)]) [0] rfl
  have hFc := va_free (wc := [(h0, .inr (0, [.int h0_0, .int h0_1, .ref h0_2, .ref h0_3, .ref h0_4, .ref h0_5, .ref h0_6, .ref h0_7, .ref h0_8, .ref h0_9, .ref h0_10, .ref h0_11, .ref h0_12])), (h0_4, .inl (yh0_4, 60, .inl fh0_4))]) hD hS hA [0, 1] rfl
  refine va_calli (va_runV (As := [.int p1, .int 0]) (rest := []) ⟨hx, hb, hml, hown, hts⟩ (s_X0_isKind l dC dI h0 h0_4 h0_0 h0_1 h0_2 h0_3 h0_5 h0_6 h0_7 h0_8 h0_9 h0_10 h0_11 h0_12 yh0_4 fh0_4 p1 0 s.heap.size hy_h0_0) (cwV 2 hts gX0_isSource_X0_isKind rfl rfl rfl (by decide +kernel) ⟨Nat.le_of_ble_eq_true rfl, Nat.le_of_ble_eq_true rfl⟩) ⟨fun a U g mk q => by obtain ⟨q0, q1, qP, qK, qD⟩ := q; exact ⟨q0, q1, qP, va_K.moved (u := U) (U := U.calling g mk a) (Vm.Alike.refl U.vm) qK, qD⟩, va_recv hKc hPc (ci := 0) (q0 := 0) rfl rfl, fun U hU hW => ⟨rfl, by rw [hU], by rw [hU]; exact hPc, va_K.moved hW.alike hKc, hDc.weaken (fun _ _ _ _ => trivial)⟩⟩ rfl rfl hl.1 rfl (lv_room (Nat.le_of_ble_eq_true rfl)) dX0_isSource_3 ⟨Nat.le_of_ble_eq_true rfl, Nat.le_of_ble_eq_true rfl⟩) hS (fun q _ h => hFc q h) hFc (fun ry2 u t Hy1 locs ht hvm hw hB hz1 hk1 hS => ?_)
  obtain ⟨hP1, hK1, hD1⟩ := hB
  rw [ht] at hP1
  obtain ⟨hP, hD⟩ := va_join (wr := []) (w1 := [(h0, .inr (0, [.int h0_0, .int h0_1, .ref h0_2, .ref h0_3, .ref h0_4, .ref h0_5, .ref h0_6, .ref h0_7, .ref h0_8, .ref h0_9, .ref h0_10, .ref h0_11, .ref h0_12])), (h0_4, .inl (yh0_4, 60, .inl fh0_4))]) hP hD [0, 1] [] rfl rfl (by decide) (by decide) hk1 hFc hP1 hD1
  have hP : va_P (dC, dI) vwCl [(h0, .inr (0, [.int h0_0, .int h0_1, .ref h0_2, .ref h0_3, .ref h0_4, .ref h0_5, .ref h0_6, .ref h0_7, .ref h0_8, .ref h0_9, .ref h0_10, .ref h0_11, .ref h0_12])), (h0_4, .inl (yh0_4, 60, .inl fh0_4))] Hy1 := hP
  have hD : va_D A [(h0, .inr (0, [.int h0_0, .int h0_1, .ref h0_2, .ref h0_3, .ref h0_4, .ref h0_5, .ref h0_6, .ref h0_7, .ref h0_8, .ref h0_9, .ref h0_10, .ref h0_11, .ref h0_12])), (h0_4, .inl (yh0_4, 60, .inl fh0_4))] := hD
  obtain ⟨by3, hqy4⟩ : IV 0 1 ry2 ∧ (¬ ry2 = 0 → IV 0 59 p1) := hw
  refine lv_if_ne (tgt := 18) hx hb dX0_isSource_6 (by decide) (fun cy5 => ?_) (fun cy5 => ?_)
  · have h_cy5 := cy5
    have by6 : IV 0 59 p1 := hqy4 cy5
    have by7 : IV 1 1 ry2 := IV_ne_lo cy5 by3 (IV_mk (a := 0) (b := 0) (by decide) (by decide)) (by decide) (by decide) (by decide)
    refine lv_iconst (v := 1) hx hb dX0_isSource_18 (by decide) ?_
    refine lv_goto (tgt := 23) hx hb dX0_isSource_19 (by decide) ?_
    exact W.zret (v := 1) hx hb hr (by decide) (fun t ht hW => ⟨⟨1, (), rfl, ⟨(IV_mk (by decide) (by decide)), fun _ => by6⟩, by rw [ht]; exact hP, va_K.moved hW.alike hK, hD⟩, hS.F ht⟩) hS.2.2 dX0_isSource_23
  · have h_cy5 := cy5
    have by8 : IV 0 0 ry2 := IV_eq_l cy5 by3 (IV_mk (a := 0) (b := 0) (by decide) (by decide)) (by decide) (by decide)
    refine lv_aload_n hx hb dX0_isSource_9 rfl (lv_at hl 0 rfl) ?_
    refine lv_iload_n hx hb dX0_isSource_10 rfl (lv_at hl 1 rfl) ?_
    refine lv_iconst (v := 3) hx hb dX0_isSource_11 (by decide) ?_
    have hPc := hP.sub (ws' := [(h0, .inr (0, [.int h0_0, .int h0_1, .ref h0_2, .ref h0_3, .ref h0_4, .ref h0_5, .ref h0_6, .ref h0_7, .ref h0_8, .ref h0_9, .ref h0_10, .ref h0_11, .ref h0_12])), (h0_4, .inl (yh0_4, 60, .inl fh0_4))]) [0, 1] rfl
    have hDc := hD.sub (ws' := [(h0, .inr (0, [.int h0_0, .int h0_1, .ref h0_2, .ref h0_3, .ref h0_4, .ref h0_5, .ref h0_6, .ref h0_7, .ref h0_8, .ref h0_9, .ref h0_10, .ref h0_11, .ref h0_12])), (h0_4, .inl (yh0_4, 60, .inl fh0_4))]) [0, 1] (by decide) rfl
    have hKc := hK.sub (tys' := [(yh0_4, .int)]) [0] rfl
    have hFc := va_free (wc := [(h0, .inr (0, [.int h0_0, .int h0_1, .ref h0_2, .ref h0_3, .ref h0_4, .ref h0_5, .ref h0_6, .ref h0_7, .ref h0_8, .ref h0_9, .ref h0_10, .ref h0_11, .ref h0_12])), (h0_4, .inl (yh0_4, 60, .inl fh0_4))]) hD hS hA [0, 1] rfl
    refine va_calli (va_runV (As := [.int p1, .int 3]) (rest := []) ⟨hx, hb, hml, hown, hts⟩ (s_X0_isKind l dC dI h0 h0_4 h0_0 h0_1 h0_2 h0_3 h0_5 h0_6 h0_7 h0_8 h0_9 h0_10 h0_11 h0_12 yh0_4 fh0_4 p1 3 Hy1.size hy_h0_0) (cwV 2 hts gX0_isSource_X0_isKind rfl rfl rfl (by decide +kernel) ⟨Nat.le_of_ble_eq_true rfl, Nat.le_of_ble_eq_true rfl⟩) ⟨fun a U g mk q => by obtain ⟨q0, q1, qP, qK, qD⟩ := q; exact ⟨q0, q1, qP, va_K.moved (u := U) (U := U.calling g mk a) (Vm.Alike.refl U.vm) qK, qD⟩, va_recv hKc hPc (ci := 0) (q0 := 0) rfl rfl, fun U hU hW => ⟨rfl, by rw [hU], by rw [hU]; exact hPc, va_K.moved hW.alike hKc, hDc.weaken (fun _ _ _ _ => trivial)⟩⟩ rfl rfl hl.1 rfl (lv_room (Nat.le_of_ble_eq_true rfl)) dX0_isSource_12 ⟨Nat.le_of_ble_eq_true rfl, Nat.le_of_ble_eq_true rfl⟩) hS (fun q _ h => hFc q h) hFc (fun ry10 u t Hy9 locs ht hvm hw hB hz1 hk1 hS => ?_)
    obtain ⟨hP1, hK1, hD1⟩ := hB
    rw [ht] at hP1
    obtain ⟨hP, hD⟩ := va_join (wr := []) (w1 := [(h0, .inr (0, [.int h0_0, .int h0_1, .ref h0_2, .ref h0_3, .ref h0_4, .ref h0_5, .ref h0_6, .ref h0_7, .ref h0_8, .ref h0_9, .ref h0_10, .ref h0_11, .ref h0_12])), (h0_4, .inl (yh0_4, 60, .inl fh0_4))]) hP hD [0, 1] [] rfl rfl (by decide) (by decide) hk1 hFc hP1 hD1
    have hP : va_P (dC, dI) vwCl [(h0, .inr (0, [.int h0_0, .int h0_1, .ref h0_2, .ref h0_3, .ref h0_4, .ref h0_5, .ref h0_6, .ref h0_7, .ref h0_8, .ref h0_9, .ref h0_10, .ref h0_11, .ref h0_12])), (h0_4, .inl (yh0_4, 60, .inl fh0_4))] Hy9 := hP
    have hD : va_D A [(h0, .inr (0, [.int h0_0, .int h0_1, .ref h0_2, .ref h0_3, .ref h0_4, .ref h0_5, .ref h0_6, .ref h0_7, .ref h0_8, .ref h0_9, .ref h0_10, .ref h0_11, .ref h0_12])), (h0_4, .inl (yh0_4, 60, .inl fh0_4))] := hD
    obtain ⟨by11, hqy12⟩ : IV 0 1 ry10 ∧ (¬ ry10 = 0 → IV 0 59 p1) := hw
    refine lv_if_eq (tgt := 22) hx hb dX0_isSource_15 (by decide) (fun cy13 => ?_) (fun cy13 => ?_)
    · have h_cy13 := cy13
      have by14 : IV 0 0 ry10 := IV_eq_l cy13 by11 (IV_mk (a := 0) (b := 0) (by decide) (by decide)) (by decide) (by decide)
      refine lv_iconst (v := 0) hx hb dX0_isSource_22 (by decide) ?_
      exact W.zret (v := 0) hx hb hr (by decide) (fun t ht hW => ⟨⟨0, (), rfl, ⟨(IV_mk (by decide) (by decide)), fun h => absurd rfl h⟩, by rw [ht]; exact hP, va_K.moved hW.alike hK, hD⟩, hS.F ht⟩) hS.2.2 dX0_isSource_23
    · have h_cy13 := cy13
      have by15 : IV 0 59 p1 := hqy12 cy13
      have by16 : IV 1 1 ry10 := IV_ne_lo cy13 by11 (IV_mk (a := 0) (b := 0) (by decide) (by decide)) (by decide) (by decide) (by decide)
      refine lv_iconst (v := 1) hx hb dX0_isSource_18 (by decide) ?_
      refine lv_goto (tgt := 23) hx hb dX0_isSource_19 (by decide) ?_
      exact W.zret (v := 1) hx hb hr (by decide) (fun t ht hW => ⟨⟨1, (), rfl, ⟨(IV_mk (by decide) (by decide)), fun _ => by15⟩, by rw [ht]; exact hP, va_K.moved hW.alike hK, hD⟩, hS.F ht⟩) hS.2.2 dX0_isSource_23

set_option maxHeartbeats 4000000 in
set_option maxRecDepth 100000 in
theorem s_X0_find (l : Launch) (dC : Nat → ClassId) (dI : Nat → Nat → Nat) (h0 : Nat) (h0_2 : Nat) (h0_0 : Int32) (h0_1 : Int32) (h0_3 : Nat) (h0_4 : Nat) (h0_5 : Nat) (h0_6 : Nat) (h0_7 : Nat) (h0_8 : Nat) (h0_9 : Nat) (h0_10 : Nat) (h0_11 : Nat) (h0_12 : Nat) (yh0_2 : ClassId) (fh0_2 : Nat → Int64) (p1 : Int64) (sz : Nat) (hy_h0_0 : IV 0 60 h0_0) : Met l yX0_find wsX0_find ({ frames := 0, cells := 0, slots := 0, locals := 0 }) (va_Pc [.ref h0, .long p1] (fun U => U.heap.size = sz ∧ va_P (dC, dI) vwCl [(h0, .inr (0, [.int h0_0, .int h0_1, .ref h0_2, .ref h0_3, .ref h0_4, .ref h0_5, .ref h0_6, .ref h0_7, .ref h0_8, .ref h0_9, .ref h0_10, .ref h0_11, .ref h0_12])), (h0_2, .inl (yh0_2, 60, .inr (.inl fh0_2)))] U.heap ∧ va_K (dC, dI) vwCl [(yh0_2, .long)] U ∧ va_D (fun _ => True) [(h0, .inr (0, [.int h0_0, .int h0_1, .ref h0_2, .ref h0_3, .ref h0_4, .ref h0_5, .ref h0_6, .ref h0_7, .ref h0_8, .ref h0_9, .ref h0_10, .ref h0_11, .ref h0_12])), (h0_2, .inl (yh0_2, 60, .inr (.inl fh0_2)))])) (va_Qi (fun (r : Int32) (_ : Unit) => IV (-1) 59 r) (fun (_ : Unit) (t : State) => va_P (dC, dI) vwCl [(h0, .inr (0, [.int h0_0, .int h0_1, .ref h0_2, .ref h0_3, .ref h0_4, .ref h0_5, .ref h0_6, .ref h0_7, .ref h0_8, .ref h0_9, .ref h0_10, .ref h0_11, .ref h0_12])), (h0_2, .inl (yh0_2, 60, .inr (.inl fh0_2)))] t.heap ∧ va_K (dC, dI) vwCl [(yh0_2, .long)] t ∧ va_D (va_A [(h0, .inr (0, [.int h0_0, .int h0_1, .ref h0_2, .ref h0_3, .ref h0_4, .ref h0_5, .ref h0_6, .ref h0_7, .ref h0_8, .ref h0_9, .ref h0_10, .ref h0_11, .ref h0_12])), (h0_2, .inl (yh0_2, 60, .inr (.inl fh0_2)))] sz) [(h0, .inr (0, [.int h0_0, .int h0_1, .ref h0_2, .ref h0_3, .ref h0_4, .ref h0_5, .ref h0_6, .ref h0_7, .ref h0_8, .ref h0_9, .ref h0_10, .ref h0_11, .ref h0_12])), (h0_2, .inl (yh0_2, 60, .inr (.inl fh0_2)))]) (va_A [(h0, .inr (0, [.int h0_0, .int h0_1, .ref h0_2, .ref h0_3, .ref h0_4, .ref h0_5, .ref h0_6, .ref h0_7, .ref h0_8, .ref h0_9, .ref h0_10, .ref h0_11, .ref h0_12])), (h0_2, .inl (yh0_2, 60, .inr (.inl fh0_2)))] sz)) 0 0 (va_A [(h0, .inr (0, [.int h0_0, .int h0_1, .ref h0_2, .ref h0_3, .ref h0_4, .ref h0_5, .ref h0_6, .ref h0_7, .ref h0_8, .ref h0_9, .ref h0_10, .ref h0_11, .ref h0_12])), (h0_2, .inl (yh0_2, 60, .inr (.inl fh0_2)))] sz) := by
  refine Met.ofW (cc := cX0_find) (maxL := 4) (ret := (some .int)) (by decide +kernel) rfl ?_
  intro p e s m args below meth c s₁ B hml hv
  obtain ⟨rfl, hsz, hP, hK, hD0⟩ := hv
  have hx := B.exec
  have hb := B.bytes
  have hr := B.returns
  have hts := atoms_spec (ws := wsX0_find) B.pre
  have hown : s.vm.findClass RX0 = some m.cls := findClass_of_methodNamed B.named
  have hlocks := B.notSynchronized
  have inX0_ : ∀ w ∈ wsX00, w ∈ wsX0_find := fun _ h => List.mem_cons_of_mem _ (List.mem_append_right _ h)
  subst hsz
  have hD := hD0.self (sz := s.heap.size)
  generalize hAe : va_A [(h0, .inr (0, [.int h0_0, .int h0_1, .ref h0_2, .ref h0_3, .ref h0_4, .ref h0_5, .ref h0_6, .ref h0_7, .ref h0_8, .ref h0_9, .ref h0_10, .ref h0_11, .ref h0_12])), (h0_2, .inl (yh0_2, 60, .inr (.inl fh0_2)))] s.heap.size = A at hD ⊢
  have hA : ∀ q : Nat, s.heap.size ≤ q → A q := fun q h => by rw [← hAe]; exact Or.inr h
  have hS : va_S A s.heap s.heap [] := va_S.rf
  have hP : va_P (dC, dI) vwCl [(h0, .inr (0, [.int h0_0, .int h0_1, .ref h0_2, .ref h0_3, .ref h0_4, .ref h0_5, .ref h0_6, .ref h0_7, .ref h0_8, .ref h0_9, .ref h0_10, .ref h0_11, .ref h0_12])), (h0_2, .inl (yh0_2, 60, .inr (.inl fh0_2)))] s.heap := hP
  have hl := lv_entry ([.ref h0, .long p1]) (n := 4) (Nat.le_of_ble_eq_true rfl)
  rw [lg_entry_eq]
  generalize (lg_sl ([.ref h0, .long p1]) ++ List.replicate (4 - (lg_sl ([.ref h0, .long p1])).length) Slot.unset).toArray = ls at hl ⊢
  have hl : lv_has ls 4 [(0, .ref h0), (1, .long p1)] := hl
  refine lv_iconst (v := 0) hx hb dX0_find_0 (by decide) ?_
  refine lv_istore_n (lv' := [(3, .int 0), (0, .ref h0), (1, .long p1)]) hx hb dX0_find_1 rfl hl (by decide) rfl (fun ls hl => ?_)
  refine W_abs (fun GWy4 eGy5 => ?_)
  have lpy6 : ∀ (n : Nat) (my3 : Int32) (HGWy4 : Heap) (locs : List Loc) (ls : Array Slot), 61 - my3.toInt ≤ (n : Int) → IV 0 60 my3 → va_P (dC, dI) vwCl [(h0, .inr (0, [.int h0_0, .int h0_1, .ref h0_2, .ref h0_3, .ref h0_4, .ref h0_5, .ref h0_6, .ref h0_7, .ref h0_8, .ref h0_9, .ref h0_10, .ref h0_11, .ref h0_12])), (h0_2, .inl (yh0_2, 60, .inr (.inl fh0_2)))] HGWy4 → va_D A [(h0, .inr (0, [.int h0_0, .int h0_1, .ref h0_2, .ref h0_3, .ref h0_4, .ref h0_5, .ref h0_6, .ref h0_7, .ref h0_8, .ref h0_9, .ref h0_10, .ref h0_11, .ref h0_12])), (h0_2, .inl (yh0_2, 60, .inr (.inl fh0_2)))] → va_S A s.heap HGWy4 locs → lv_has ls 4 [(3, .int my3), (0, .ref h0), (1, .long p1)] → GWy4 HGWy4 locs 0 0 (F0 m 2 ls []) := by
    intro n
    induction n with
    | zero =>
      intro my3 HGWy4 locs ls hmGWy4 hmy3 hP hD hS hl
      exact (IV_u0 hmy3 hmGWy4 (by decide)).elim
    | succ n ihGWy4 =>
      intro my3 HGWy4 locs ls hmGWy4 hmy3 hP hD hS hl
      refine (eGy5 _ _ _ _ _).mpr ?_
      refine lv_iload_n hx hb dX0_find_2 rfl (lv_at hl 0 rfl) ?_
      refine lv_aload_n hx hb dX0_find_3 rfl (lv_at hl 1 rfl) ?_
      refine va_get (D := (dC, dI)) (ci := 0) (v := .int h0_0) (C := RX0) (T := TX0) (N := 13) hx hb hts inX0_ hown hK hP 0 rfl rfl 0 (by decide) (hts (.fieldLink RX0 46 "GateWheel$Circuit" "count" "I") (List.mem_of_getElem? (i := 1) rfl)) (fun _ h9 => h9) rfl dX0_find_4 ?_
      refine lv_icmp_ge (tgt := 29) hx hb dX0_find_7 (by decide) (fun cy7 => ?_) (fun cy7 => ?_)
      · have h_cy7 := cy7
        refine lv_iconst (v := (-1)) hx hb dX0_find_29 (by decide) ?_
        exact W.iret (v := (-1)) hx hb hr (fun t ht hW => ⟨⟨(-1), (), rfl, (IV_mk (by decide) (by decide)), by rw [ht]; exact hP, va_K.moved hW.alike hK, hD⟩, hS.F ht⟩) hS.2.2 dX0_find_30
      · have h_cy7 := cy7
        have by8 : IV 1 60 h0_0 := IV_nle_l cy7 hy_h0_0 hmy3 (by decide) (by decide)
        have by9 : IV 0 59 my3 := IV_nle_r cy7 hy_h0_0 hmy3 (by decide) (by decide)
        refine lv_aload_n hx hb dX0_find_10 rfl (lv_at hl 1 rfl) ?_
        refine va_get (D := (dC, dI)) (ci := 0) (v := .ref h0_2) (C := RX0) (T := TX0) (N := 13) hx hb hts inX0_ hown hK hP 0 rfl rfl 2 (by decide) (hts (.fieldLink RX0 9 "GateWheel$Circuit" "names" "[J") (List.mem_of_getElem? (i := 2) rfl)) (fun _ h9 => h9) rfl dX0_find_11 ?_
        refine lv_iload_n hx hb dX0_find_14 rfl (lv_at hl 0 rfl) ?_
        refine va_lald hx hb hK hP 1 0 rfl rfl (IV_in by9 (by decide) (by decide)) dX0_find_15 ?_
        refine lv_topl (fun zy10 ezy10 => ?_)
        refine lv_lload_n hx hb dX0_find_16 rfl (lv_at hl 2 rfl) ?_
        refine W.lcmp hx hb dX0_find_17 ?_
        refine lv_topi (fun zy11 ezy11 => ?_)
        refine lv_if_ne (tgt := 23) hx hb dX0_find_18 (by decide) (fun cy12 => ?_) (fun cy12 => ?_)
        · have h_cy12 := cy12
          obtain ⟨zy13, ezy13⟩ : ∃ y : Int32, y = my3 + Int32.ofInt 1 := ⟨_, rfl⟩
          have by14 : IV 1 60 zy13 := IV_add (c := 1) (d := 1) ezy13 by9 (IV_mk (by decide) (by decide)) (by decide) (by decide) (by decide) (by decide)
          refine lv_iinc (v := zy13) (lv' := [(3, .int zy13), (0, .ref h0), (1, .long p1)]) hx hb dX0_find_23 hl (k := 0) rfl ezy13.symm (by decide) rfl (fun ls hl => ?_)
          refine lv_goto (tgt := 2) hx hb dX0_find_26 (by decide) ?_
          exact (eGy5 _ _ _ _ _).mp (ihGWy4 zy13 _ _ _ (IV_u1 hmGWy4 (IV_step (c := 1) ezy13 by9 (by decide) (by decide) (by decide)) (by decide)) (IV_wk by14 (by decide) (by decide)) hP hD hS (lv_sub hl [0, 1, 2] rfl))
        · have h_cy12 := cy12
          have by15 : IV 0 0 zy11 := IV_eq_l cy12 (IV_top zy11) (IV_mk (a := 0) (b := 0) (by decide) (by decide)) (by decide) (by decide)
          refine lv_iload_n hx hb dX0_find_21 rfl (lv_at hl 0 rfl) ?_
          exact W.iret (v := my3) hx hb hr (fun t ht hW => ⟨⟨my3, (), rfl, (IV_wk by9 (by decide) (by decide)), by rw [ht]; exact hP, va_K.moved hW.alike hK, hD⟩, hS.F ht⟩) hS.2.2 dX0_find_22
  exact lpy6 61 0 _ _ _ (IV_ui (IV_mk (a := 0) (b := 0) (by decide) (by decide)) (by decide)) (IV_mk (by decide) (by decide)) hP hD hS (lv_sub hl [0, 1, 2] rfl)

set_option maxHeartbeats 4000000 in
set_option maxRecDepth 100000 in
theorem s_X0_add (l : Launch) (dC : Nat → ClassId) (dI : Nat → Nat → Nat) (h0 : Nat) (h0_2 : Nat) (h0_3 : Nat) (h0_4 : Nat) (h0_5 : Nat) (h0_6 : Nat) (h0_8 : Nat) (h0_9 : Nat) (h0_10 : Nat) (h0_11 : Nat) (h0_0 : Int32) (h0_1 : Int32) (h0_7 : Nat) (h0_12 : Nat) (yh0_2 : ClassId) (fh0_2 : Nat → Int64) (yh0_3 : ClassId) (fh0_3 : Nat → Int32) (yh0_4 : ClassId) (fh0_4 : Nat → Int32) (yh0_5 : ClassId) (fh0_5 : Nat → Int32) (yh0_6 : ClassId) (fh0_6 : Nat → Int32) (yh0_8 : ClassId) (fh0_8 : Nat → Int32) (yh0_9 : ClassId) (fh0_9 : Nat → Int32) (yh0_10 : ClassId) (fh0_10 : Nat → Int64) (yh0_11 : ClassId) (fh0_11 : Nat → Int32) (p1 : Int64) (p2 : Int32) (p3 : Int32) (sz : Nat) (hy_h0_0 : IV 0 60 h0_0) (hy_fh0_8 : AR 0 12 fh0_8) : Met l yX0_add wsX0_add ({ frames := 0, cells := 0, slots := 0, locals := 0 }) (va_Pc [.ref h0, .long p1, .int p2, .int p3] (fun U => U.heap.size = sz ∧ va_P (dC, dI) vwCl [(h0, .inr (0, [.int h0_0, .int h0_1, .ref h0_2, .ref h0_3, .ref h0_4, .ref h0_5, .ref h0_6, .ref h0_7, .ref h0_8, .ref h0_9, .ref h0_10, .ref h0_11, .ref h0_12])), (h0_2, .inl (yh0_2, 60, .inr (.inl fh0_2))), (h0_3, .inl (yh0_3, 60, .inl fh0_3)), (h0_4, .inl (yh0_4, 60, .inl fh0_4)), (h0_5, .inl (yh0_5, 60, .inl fh0_5)), (h0_6, .inl (yh0_6, 60, .inl fh0_6)), (h0_8, .inl (yh0_8, 60, .inl fh0_8)), (h0_9, .inl (yh0_9, 60, .inl fh0_9)), (h0_10, .inl (yh0_10, 60, .inr (.inl fh0_10))), (h0_11, .inl (yh0_11, 60, .inl fh0_11))] U.heap ∧ va_K (dC, dI) vwCl [(yh0_2, .long), (yh0_3, .int), (yh0_4, .int), (yh0_5, .int), (yh0_6, .int), (yh0_8, .int), (yh0_9, .int), (yh0_10, .long), (yh0_11, .int)] U ∧ va_D (fun _ => True) [(h0, .inr (0, [.int h0_0, .int h0_1, .ref h0_2, .ref h0_3, .ref h0_4, .ref h0_5, .ref h0_6, .ref h0_7, .ref h0_8, .ref h0_9, .ref h0_10, .ref h0_11, .ref h0_12])), (h0_2, .inl (yh0_2, 60, .inr (.inl fh0_2))), (h0_3, .inl (yh0_3, 60, .inl fh0_3)), (h0_4, .inl (yh0_4, 60, .inl fh0_4)), (h0_5, .inl (yh0_5, 60, .inl fh0_5)), (h0_6, .inl (yh0_6, 60, .inl fh0_6)), (h0_8, .inl (yh0_8, 60, .inl fh0_8)), (h0_9, .inl (yh0_9, 60, .inl fh0_9)), (h0_10, .inl (yh0_10, 60, .inr (.inl fh0_10))), (h0_11, .inl (yh0_11, 60, .inl fh0_11))])) (va_Qv (fun (_ : Unit) => True) (fun (_ : Unit) (t : State) => ∃ (my40 : Int32), ∃ (my41 : Int32), ∃ (fy42 : Nat → Int64), ∃ (fy43 : Nat → Int32), ∃ (fy44 : Nat → Int32), ∃ (fy45 : Nat → Int32), ∃ (fy46 : Nat → Int32), ∃ (fy47 : Nat → Int32), ∃ (fy48 : Nat → Int32), ∃ (fy49 : Nat → Int64), ∃ (fy50 : Nat → Int32), IV 1 60 my40 ∧ AR 0 12 fy47 ∧ va_P (dC, dI) vwCl [(h0, .inr (0, [.int my40, .int my41, .ref h0_2, .ref h0_3, .ref h0_4, .ref h0_5, .ref h0_6, .ref h0_7, .ref h0_8, .ref h0_9, .ref h0_10, .ref h0_11, .ref h0_12])), (h0_2, .inl (yh0_2, 60, .inr (.inl fy42))), (h0_3, .inl (yh0_3, 60, .inl fy43)), (h0_4, .inl (yh0_4, 60, .inl fy44)), (h0_5, .inl (yh0_5, 60, .inl fy45)), (h0_6, .inl (yh0_6, 60, .inl fy46)), (h0_8, .inl (yh0_8, 60, .inl fy47)), (h0_9, .inl (yh0_9, 60, .inl fy48)), (h0_10, .inl (yh0_10, 60, .inr (.inl fy49))), (h0_11, .inl (yh0_11, 60, .inl fy50))] t.heap ∧ va_K (dC, dI) vwCl [(yh0_2, .long), (yh0_3, .int), (yh0_4, .int), (yh0_5, .int), (yh0_6, .int), (yh0_8, .int), (yh0_9, .int), (yh0_10, .long), (yh0_11, .int)] t ∧ va_D (va_A [(h0, .inr (0, [.int h0_0, .int h0_1, .ref h0_2, .ref h0_3, .ref h0_4, .ref h0_5, .ref h0_6, .ref h0_7, .ref h0_8, .ref h0_9, .ref h0_10, .ref h0_11, .ref h0_12])), (h0_2, .inl (yh0_2, 60, .inr (.inl fh0_2))), (h0_3, .inl (yh0_3, 60, .inl fh0_3)), (h0_4, .inl (yh0_4, 60, .inl fh0_4)), (h0_5, .inl (yh0_5, 60, .inl fh0_5)), (h0_6, .inl (yh0_6, 60, .inl fh0_6)), (h0_8, .inl (yh0_8, 60, .inl fh0_8)), (h0_9, .inl (yh0_9, 60, .inl fh0_9)), (h0_10, .inl (yh0_10, 60, .inr (.inl fh0_10))), (h0_11, .inl (yh0_11, 60, .inl fh0_11))] sz) [(h0, .inr (0, [.int my40, .int my41, .ref h0_2, .ref h0_3, .ref h0_4, .ref h0_5, .ref h0_6, .ref h0_7, .ref h0_8, .ref h0_9, .ref h0_10, .ref h0_11, .ref h0_12])), (h0_2, .inl (yh0_2, 60, .inr (.inl fy42))), (h0_3, .inl (yh0_3, 60, .inl fy43)), (h0_4, .inl (yh0_4, 60, .inl fy44)), (h0_5, .inl (yh0_5, 60, .inl fy45)), (h0_6, .inl (yh0_6, 60, .inl fy46)), (h0_8, .inl (yh0_8, 60, .inl fy47)), (h0_9, .inl (yh0_9, 60, .inl fy48)), (h0_10, .inl (yh0_10, 60, .inr (.inl fy49))), (h0_11, .inl (yh0_11, 60, .inl fy50))]) (va_A [(h0, .inr (0, [.int h0_0, .int h0_1, .ref h0_2, .ref h0_3, .ref h0_4, .ref h0_5, .ref h0_6, .ref h0_7, .ref h0_8, .ref h0_9, .ref h0_10, .ref h0_11, .ref h0_12])), (h0_2, .inl (yh0_2, 60, .inr (.inl fh0_2))), (h0_3, .inl (yh0_3, 60, .inl fh0_3)), (h0_4, .inl (yh0_4, 60, .inl fh0_4)), (h0_5, .inl (yh0_5, 60, .inl fh0_5)), (h0_6, .inl (yh0_6, 60, .inl fh0_6)), (h0_8, .inl (yh0_8, 60, .inl fh0_8)), (h0_9, .inl (yh0_9, 60, .inl fh0_9)), (h0_10, .inl (yh0_10, 60, .inr (.inl fh0_10))), (h0_11, .inl (yh0_11, 60, .inl fh0_11))] sz)) 0 0 (va_A [(h0, .inr (0, [.int h0_0, .int h0_1, .ref h0_2, .ref h0_3, .ref h0_4, .ref h0_5, .ref h0_6, .ref h0_7, .ref h0_8, .ref h0_9, .ref h0_10, .ref h0_11, .ref h0_12])), (h0_2, .inl (yh0_2, 60, .inr (.inl fh0_2))), (h0_3, .inl (yh0_3, 60, .inl fh0_3)), (h0_4, .inl (yh0_4, 60, .inl fh0_4)), (h0_5, .inl (yh0_5, 60, .inl fh0_5)), (h0_6, .inl (yh0_6, 60, .inl fh0_6)), (h0_8, .inl (yh0_8, 60, .inl fh0_8)), (h0_9, .inl (yh0_9, 60, .inl fh0_9)), (h0_10, .inl (yh0_10, 60, .inr (.inl fh0_10))), (h0_11, .inl (yh0_11, 60, .inl fh0_11))] sz) := by
  refine Met.ofW (cc := cX0_add) (maxL := 5) (ret := none) (by decide +kernel) rfl ?_
  intro p e s m args below meth c s₁ B hml hv
  obtain ⟨rfl, hsz, hP, hK, hD0⟩ := hv
  have hx := B.exec
  have hb := B.bytes
  have hr := B.returns
  have hts := atoms_spec (ws := wsX0_add) B.pre
  have hown : s.vm.findClass RX0 = some m.cls := findClass_of_methodNamed B.named
  have hlocks := B.notSynchronized
  have inX0_ : ∀ w ∈ wsX00, w ∈ wsX0_add := fun _ h => List.mem_cons_of_mem _ (List.mem_append_right _ h)
  subst hsz
  have hD := hD0.self (sz := s.heap.size)
  generalize hAe : va_A [(h0, .inr (0, [.int h0_0, .int h0_1, .ref h0_2, .ref h0_3, .ref h0_4, .ref h0_5, .ref h0_6, .ref h0_7, .ref h0_8, .ref h0_9, .ref h0_10, .ref h0_11, .ref h0_12])), (h0_2, .inl (yh0_2, 60, .inr (.inl fh0_2))), (h0_3, .inl (yh0_3, 60, .inl fh0_3)), (h0_4, .inl (yh0_4, 60, .inl fh0_4)), (h0_5, .inl (yh0_5, 60, .inl fh0_5)), (h0_6, .inl (yh0_6, 60, .inl fh0_6)), (h0_8, .inl (yh0_8, 60, .inl fh0_8)), (h0_9, .inl (yh0_9, 60, .inl fh0_9)), (h0_10, .inl (yh0_10, 60, .inr (.inl fh0_10))), (h0_11, .inl (yh0_11, 60, .inl fh0_11))] s.heap.size = A at hD ⊢
  have hA : ∀ q : Nat, s.heap.size ≤ q → A q := fun q h => by rw [← hAe]; exact Or.inr h
  have hS : va_S A s.heap s.heap [] := va_S.rf
  have hP : va_P (dC, dI) vwCl [(h0, .inr (0, [.int h0_0, .int h0_1, .ref h0_2, .ref h0_3, .ref h0_4, .ref h0_5, .ref h0_6, .ref h0_7, .ref h0_8, .ref h0_9, .ref h0_10, .ref h0_11, .ref h0_12])), (h0_2, .inl (yh0_2, 60, .inr (.inl fh0_2))), (h0_3, .inl (yh0_3, 60, .inl fh0_3)), (h0_4, .inl (yh0_4, 60, .inl fh0_4)), (h0_5, .inl (yh0_5, 60, .inl fh0_5)), (h0_6, .inl (yh0_6, 60, .inl fh0_6)), (h0_8, .inl (yh0_8, 60, .inl fh0_8)), (h0_9, .inl (yh0_9, 60, .inl fh0_9)), (h0_10, .inl (yh0_10, 60, .inr (.inl fh0_10))), (h0_11, .inl (yh0_11, 60, .inl fh0_11))] s.heap := hP
  have hl := lv_entry ([.ref h0, .long p1, .int p2, .int p3]) (n := 5) (Nat.le_of_ble_eq_true rfl)
  rw [lg_entry_eq]
  generalize (lg_sl ([.ref h0, .long p1, .int p2, .int p3]) ++ List.replicate (5 - (lg_sl ([.ref h0, .long p1, .int p2, .int p3])).length) Slot.unset).toArray = ls at hl ⊢
  have hl : lv_has ls 5 [(0, .ref h0), (1, .long p1), (3, .int p2), (4, .int p3)] := hl
  refine lv_aload_n hx hb dX0_add_0 rfl (lv_at hl 0 rfl) ?_
  refine va_get (D := (dC, dI)) (ci := 0) (v := .int h0_0) (C := RX0) (T := TX0) (N := 13) hx hb hts inX0_ hown hK hP 0 rfl rfl 0 (by decide) (hts (.fieldLink RX0 46 "GateWheel$Circuit" "count" "I") (List.mem_of_getElem? (i := 1) rfl)) (fun _ h9 => h9) rfl dX0_add_1 ?_
  refine lv_bipush (v := 60) hx hb dX0_add_4 (by decide) ?_
  refine lv_icmp_lt (tgt := 10) hx hb dX0_add_6 (by decide) (fun cy1 => ?_) (fun cy1 => ?_)
  · have h_cy1 := cy1
    have by2 : IV 0 59 h0_0 := IV_lt_l cy1 hy_h0_0 (IV_mk (a := 60) (b := 60) (by decide) (by decide)) (by decide) (by decide)
    refine lv_aload_n hx hb dX0_add_10 rfl (lv_at hl 0 rfl) ?_
    refine va_get (D := (dC, dI)) (ci := 0) (v := .ref h0_2) (C := RX0) (T := TX0) (N := 13) hx hb hts inX0_ hown hK hP 0 rfl rfl 2 (by decide) (hts (.fieldLink RX0 9 "GateWheel$Circuit" "names" "[J") (List.mem_of_getElem? (i := 2) rfl)) (fun _ h9 => h9) rfl dX0_add_11 ?_
    refine lv_aload_n hx hb dX0_add_14 rfl (lv_at hl 0 rfl) ?_
    refine va_get (D := (dC, dI)) (ci := 0) (v := .int h0_0) (C := RX0) (T := TX0) (N := 13) hx hb hts inX0_ hown hK hP 0 rfl rfl 0 (by decide) (hts (.fieldLink RX0 46 "GateWheel$Circuit" "count" "I") (List.mem_of_getElem? (i := 1) rfl)) (fun _ h9 => h9) rfl dX0_add_15 ?_
    refine lv_lload_n hx hb dX0_add_18 rfl (lv_at hl 1 rfl) ?_
    refine va_last hx hb hK hP hD hS 1 0 rfl rfl (IV_in by2 (by decide) (by decide)) dX0_add_19 (fun Hy3 locs hP hD hS => ?_)
    have hP : va_P (dC, dI) vwCl [(h0, .inr (0, [.int h0_0, .int h0_1, .ref h0_2, .ref h0_3, .ref h0_4, .ref h0_5, .ref h0_6, .ref h0_7, .ref h0_8, .ref h0_9, .ref h0_10, .ref h0_11, .ref h0_12])), (h0_2, .inl (yh0_2, 60, .inr (.inl (vp_updL fh0_2 (h0_0 : Int32).toNatClampNeg p1)))), (h0_3, .inl (yh0_3, 60, .inl fh0_3)), (h0_4, .inl (yh0_4, 60, .inl fh0_4)), (h0_5, .inl (yh0_5, 60, .inl fh0_5)), (h0_6, .inl (yh0_6, 60, .inl fh0_6)), (h0_8, .inl (yh0_8, 60, .inl fh0_8)), (h0_9, .inl (yh0_9, 60, .inl fh0_9)), (h0_10, .inl (yh0_10, 60, .inr (.inl fh0_10))), (h0_11, .inl (yh0_11, 60, .inl fh0_11))] Hy3 := hP
    have hD : va_D A [(h0, .inr (0, [.int h0_0, .int h0_1, .ref h0_2, .ref h0_3, .ref h0_4, .ref h0_5, .ref h0_6, .ref h0_7, .ref h0_8, .ref h0_9, .ref h0_10, .ref h0_11, .ref h0_12])), (h0_2, .inl (yh0_2, 60, .inr (.inl (vp_updL fh0_2 (h0_0 : Int32).toNatClampNeg p1)))), (h0_3, .inl (yh0_3, 60, .inl fh0_3)), (h0_4, .inl (yh0_4, 60, .inl fh0_4)), (h0_5, .inl (yh0_5, 60, .inl fh0_5)), (h0_6, .inl (yh0_6, 60, .inl fh0_6)), (h0_8, .inl (yh0_8, 60, .inl fh0_8)), (h0_9, .inl (yh0_9, 60, .inl fh0_9)), (h0_10, .inl (yh0_10, 60, .inr (.inl fh0_10))), (h0_11, .inl (yh0_11, 60, .inl fh0_11))] := hD
    generalize (vp_updL fh0_2 (h0_0 : Int32).toNatClampNeg p1) = fy4 at hP hD
    refine lv_aload_n hx hb dX0_add_20 rfl (lv_at hl 0 rfl) ?_
    refine va_get (D := (dC, dI)) (ci := 0) (v := .ref h0_3) (C := RX0) (T := TX0) (N := 13) hx hb hts inX0_ hown hK hP 0 rfl rfl 3 (by decide) (hts (.fieldLink RX0 15 "GateWheel$Circuit" "places" "[I") (List.mem_of_getElem? (i := 3) rfl)) (fun _ h9 => h9) rfl dX0_add_21 ?_
    refine lv_aload_n hx hb dX0_add_24 rfl (lv_at hl 0 rfl) ?_
    refine va_get (D := (dC, dI)) (ci := 0) (v := .int h0_0) (C := RX0) (T := TX0) (N := 13) hx hb hts inX0_ hown hK hP 0 rfl rfl 0 (by decide) (hts (.fieldLink RX0 46 "GateWheel$Circuit" "count" "I") (List.mem_of_getElem? (i := 1) rfl)) (fun _ h9 => h9) rfl dX0_add_25 ?_
    refine lv_iload_n hx hb dX0_add_28 rfl (lv_at hl 2 rfl) ?_
    refine va_iast hx hb hK hP hD hS 2 1 rfl rfl (IV_in by2 (by decide) (by decide)) dX0_add_29 (fun Hy5 locs hP hD hS => ?_)
    have hP : va_P (dC, dI) vwCl [(h0, .inr (0, [.int h0_0, .int h0_1, .ref h0_2, .ref h0_3, .ref h0_4, .ref h0_5, .ref h0_6, .ref h0_7, .ref h0_8, .ref h0_9, .ref h0_10, .ref h0_11, .ref h0_12])), (h0_2, .inl (yh0_2, 60, .inr (.inl fy4))), (h0_3, .inl (yh0_3, 60, .inl (upd fh0_3 (h0_0 : Int32).toNatClampNeg p2))), (h0_4, .inl (yh0_4, 60, .inl fh0_4)), (h0_5, .inl (yh0_5, 60, .inl fh0_5)), (h0_6, .inl (yh0_6, 60, .inl fh0_6)), (h0_8, .inl (yh0_8, 60, .inl fh0_8)), (h0_9, .inl (yh0_9, 60, .inl fh0_9)), (h0_10, .inl (yh0_10, 60, .inr (.inl fh0_10))), (h0_11, .inl (yh0_11, 60, .inl fh0_11))] Hy5 := hP
    have hD : va_D A [(h0, .inr (0, [.int h0_0, .int h0_1, .ref h0_2, .ref h0_3, .ref h0_4, .ref h0_5, .ref h0_6, .ref h0_7, .ref h0_8, .ref h0_9, .ref h0_10, .ref h0_11, .ref h0_12])), (h0_2, .inl (yh0_2, 60, .inr (.inl fy4))), (h0_3, .inl (yh0_3, 60, .inl (upd fh0_3 (h0_0 : Int32).toNatClampNeg p2))), (h0_4, .inl (yh0_4, 60, .inl fh0_4)), (h0_5, .inl (yh0_5, 60, .inl fh0_5)), (h0_6, .inl (yh0_6, 60, .inl fh0_6)), (h0_8, .inl (yh0_8, 60, .inl fh0_8)), (h0_9, .inl (yh0_9, 60, .inl fh0_9)), (h0_10, .inl (yh0_10, 60, .inr (.inl fh0_10))), (h0_11, .inl (yh0_11, 60, .inl fh0_11))] := hD
    generalize (upd fh0_3 (h0_0 : Int32).toNatClampNeg p2) = fy6 at hP hD
    refine lv_aload_n hx hb dX0_add_30 rfl (lv_at hl 0 rfl) ?_
    refine va_get (D := (dC, dI)) (ci := 0) (v := .ref h0_4) (C := RX0) (T := TX0) (N := 13) hx hb hts inX0_ hown hK hP 0 rfl rfl 4 (by decide) (hts (.fieldLink RX0 19 "GateWheel$Circuit" "kinds" "[I") (List.mem_of_getElem? (i := 4) rfl)) (fun _ h9 => h9) rfl dX0_add_31 ?_
    refine lv_aload_n hx hb dX0_add_34 rfl (lv_at hl 0 rfl) ?_
    refine va_get (D := (dC, dI)) (ci := 0) (v := .int h0_0) (C := RX0) (T := TX0) (N := 13) hx hb hts inX0_ hown hK hP 0 rfl rfl 0 (by decide) (hts (.fieldLink RX0 46 "GateWheel$Circuit" "count" "I") (List.mem_of_getElem? (i := 1) rfl)) (fun _ h9 => h9) rfl dX0_add_35 ?_
    refine lv_iload hx hb dX0_add_38 (lv_at hl 3 rfl) ?_
    refine va_iast hx hb hK hP hD hS 3 2 rfl rfl (IV_in by2 (by decide) (by decide)) dX0_add_40 (fun Hy7 locs hP hD hS => ?_)
    have hP : va_P (dC, dI) vwCl [(h0, .inr (0, [.int h0_0, .int h0_1, .ref h0_2, .ref h0_3, .ref h0_4, .ref h0_5, .ref h0_6, .ref h0_7, .ref h0_8, .ref h0_9, .ref h0_10, .ref h0_11, .ref h0_12])), (h0_2, .inl (yh0_2, 60, .inr (.inl fy4))), (h0_3, .inl (yh0_3, 60, .inl fy6)), (h0_4, .inl (yh0_4, 60, .inl (upd fh0_4 (h0_0 : Int32).toNatClampNeg p3))), (h0_5, .inl (yh0_5, 60, .inl fh0_5)), (h0_6, .inl (yh0_6, 60, .inl fh0_6)), (h0_8, .inl (yh0_8, 60, .inl fh0_8)), (h0_9, .inl (yh0_9, 60, .inl fh0_9)), (h0_10, .inl (yh0_10, 60, .inr (.inl fh0_10))), (h0_11, .inl (yh0_11, 60, .inl fh0_11))] Hy7 := hP
    have hD : va_D A [(h0, .inr (0, [.int h0_0, .int h0_1, .ref h0_2, .ref h0_3, .ref h0_4, .ref h0_5, .ref h0_6, .ref h0_7, .ref h0_8, .ref h0_9, .ref h0_10, .ref h0_11, .ref h0_12])), (h0_2, .inl (yh0_2, 60, .inr (.inl fy4))), (h0_3, .inl (yh0_3, 60, .inl fy6)), (h0_4, .inl (yh0_4, 60, .inl (upd fh0_4 (h0_0 : Int32).toNatClampNeg p3))), (h0_5, .inl (yh0_5, 60, .inl fh0_5)), (h0_6, .inl (yh0_6, 60, .inl fh0_6)), (h0_8, .inl (yh0_8, 60, .inl fh0_8)), (h0_9, .inl (yh0_9, 60, .inl fh0_9)), (h0_10, .inl (yh0_10, 60, .inr (.inl fh0_10))), (h0_11, .inl (yh0_11, 60, .inl fh0_11))] := hD
    generalize (upd fh0_4 (h0_0 : Int32).toNatClampNeg p3) = fy8 at hP hD
    refine lv_aload_n hx hb dX0_add_41 rfl (lv_at hl 0 rfl) ?_
    refine va_get (D := (dC, dI)) (ci := 0) (v := .ref h0_5) (C := RX0) (T := TX0) (N := 13) hx hb hts inX0_ hown hK hP 0 rfl rfl 5 (by decide) (hts (.fieldLink RX0 22 "GateWheel$Circuit" "gates" "[I") (List.mem_of_getElem? (i := 5) rfl)) (fun _ h9 => h9) rfl dX0_add_42 ?_
    refine lv_aload_n hx hb dX0_add_45 rfl (lv_at hl 0 rfl) ?_
    refine va_get (D := (dC, dI)) (ci := 0) (v := .int h0_0) (C := RX0) (T := TX0) (N := 13) hx hb hts inX0_ hown hK hP 0 rfl rfl 0 (by decide) (hts (.fieldLink RX0 46 "GateWheel$Circuit" "count" "I") (List.mem_of_getElem? (i := 1) rfl)) (fun _ h9 => h9) rfl dX0_add_46 ?_
    refine lv_iconst (v := 0) hx hb dX0_add_49 (by decide) ?_
    refine va_iast hx hb hK hP hD hS 4 3 rfl rfl (IV_in by2 (by decide) (by decide)) dX0_add_50 (fun Hy9 locs hP hD hS => ?_)
    have hP : va_P (dC, dI) vwCl [(h0, .inr (0, [.int h0_0, .int h0_1, .ref h0_2, .ref h0_3, .ref h0_4, .ref h0_5, .ref h0_6, .ref h0_7, .ref h0_8, .ref h0_9, .ref h0_10, .ref h0_11, .ref h0_12])), (h0_2, .inl (yh0_2, 60, .inr (.inl fy4))), (h0_3, .inl (yh0_3, 60, .inl fy6)), (h0_4, .inl (yh0_4, 60, .inl fy8)), (h0_5, .inl (yh0_5, 60, .inl (upd fh0_5 (h0_0 : Int32).toNatClampNeg 0))), (h0_6, .inl (yh0_6, 60, .inl fh0_6)), (h0_8, .inl (yh0_8, 60, .inl fh0_8)), (h0_9, .inl (yh0_9, 60, .inl fh0_9)), (h0_10, .inl (yh0_10, 60, .inr (.inl fh0_10))), (h0_11, .inl (yh0_11, 60, .inl fh0_11))] Hy9 := hP
    have hD : va_D A [(h0, .inr (0, [.int h0_0, .int h0_1, .ref h0_2, .ref h0_3, .ref h0_4, .ref h0_5, .ref h0_6, .ref h0_7, .ref h0_8, .ref h0_9, .ref h0_10, .ref h0_11, .ref h0_12])), (h0_2, .inl (yh0_2, 60, .inr (.inl fy4))), (h0_3, .inl (yh0_3, 60, .inl fy6)), (h0_4, .inl (yh0_4, 60, .inl fy8)), (h0_5, .inl (yh0_5, 60, .inl (upd fh0_5 (h0_0 : Int32).toNatClampNeg 0))), (h0_6, .inl (yh0_6, 60, .inl fh0_6)), (h0_8, .inl (yh0_8, 60, .inl fh0_8)), (h0_9, .inl (yh0_9, 60, .inl fh0_9)), (h0_10, .inl (yh0_10, 60, .inr (.inl fh0_10))), (h0_11, .inl (yh0_11, 60, .inl fh0_11))] := hD
    generalize (upd fh0_5 (h0_0 : Int32).toNatClampNeg 0) = fy10 at hP hD
    refine lv_aload_n hx hb dX0_add_51 rfl (lv_at hl 0 rfl) ?_
    refine va_get (D := (dC, dI)) (ci := 0) (v := .ref h0_6) (C := RX0) (T := TX0) (N := 13) hx hb hts inX0_ hown hK hP 0 rfl rfl 6 (by decide) (hts (.fieldLink RX0 25 "GateWheel$Circuit" "delays" "[I") (List.mem_of_getElem? (i := 6) rfl)) (fun _ h9 => h9) rfl dX0_add_52 ?_
    refine lv_aload_n hx hb dX0_add_55 rfl (lv_at hl 0 rfl) ?_
    refine va_get (D := (dC, dI)) (ci := 0) (v := .int h0_0) (C := RX0) (T := TX0) (N := 13) hx hb hts inX0_ hown hK hP 0 rfl rfl 0 (by decide) (hts (.fieldLink RX0 46 "GateWheel$Circuit" "count" "I") (List.mem_of_getElem? (i := 1) rfl)) (fun _ h9 => h9) rfl dX0_add_56 ?_
    refine lv_iload hx hb dX0_add_59 (lv_at hl 3 rfl) ?_
    refine lv_iconst (v := 2) hx hb dX0_add_61 (by decide) ?_
    refine W_abs (fun GWy13 eGy14 => ?_)
    have jny15 : ∀ (my12 : Int32) (HGWy13 : Heap) (locs : List Loc) (ls : Array Slot), IV 0 1 my12 → va_P (dC, dI) vwCl [(h0, .inr (0, [.int h0_0, .int h0_1, .ref h0_2, .ref h0_3, .ref h0_4, .ref h0_5, .ref h0_6, .ref h0_7, .ref h0_8, .ref h0_9, .ref h0_10, .ref h0_11, .ref h0_12])), (h0_2, .inl (yh0_2, 60, .inr (.inl fy4))), (h0_3, .inl (yh0_3, 60, .inl fy6)), (h0_4, .inl (yh0_4, 60, .inl fy8)), (h0_5, .inl (yh0_5, 60, .inl fy10)), (h0_6, .inl (yh0_6, 60, .inl fh0_6)), (h0_8, .inl (yh0_8, 60, .inl fh0_8)), (h0_9, .inl (yh0_9, 60, .inl fh0_9)), (h0_10, .inl (yh0_10, 60, .inr (.inl fh0_10))), (h0_11, .inl (yh0_11, 60, .inl fh0_11))] HGWy13 → va_D A [(h0, .inr (0, [.int h0_0, .int h0_1, .ref h0_2, .ref h0_3, .ref h0_4, .ref h0_5, .ref h0_6, .ref h0_7, .ref h0_8, .ref h0_9, .ref h0_10, .ref h0_11, .ref h0_12])), (h0_2, .inl (yh0_2, 60, .inr (.inl fy4))), (h0_3, .inl (yh0_3, 60, .inl fy6)), (h0_4, .inl (yh0_4, 60, .inl fy8)), (h0_5, .inl (yh0_5, 60, .inl fy10)), (h0_6, .inl (yh0_6, 60, .inl fh0_6)), (h0_8, .inl (yh0_8, 60, .inl fh0_8)), (h0_9, .inl (yh0_9, 60, .inl fh0_9)), (h0_10, .inl (yh0_10, 60, .inr (.inl fh0_10))), (h0_11, .inl (yh0_11, 60, .inl fh0_11))] → va_S A s.heap HGWy13 locs → lv_has ls 5 [(0, .ref h0), (1, .long p1), (3, .int p2), (4, .int p3)] → GWy13 HGWy13 locs 0 0 (F0 m 70 ls [.int my12, .int h0_0, .ref h0_6]) := by
      intro my12 HGWy13 locs ls hmy12 hP hD hS hl
      refine (eGy14 _ _ _ _ _).mpr ?_
      refine va_iast hx hb hK hP hD hS 5 4 rfl rfl (IV_in by2 (by decide) (by decide)) dX0_add_70 (fun Hy16 locs hP hD hS => ?_)
      have hP : va_P (dC, dI) vwCl [(h0, .inr (0, [.int h0_0, .int h0_1, .ref h0_2, .ref h0_3, .ref h0_4, .ref h0_5, .ref h0_6, .ref h0_7, .ref h0_8, .ref h0_9, .ref h0_10, .ref h0_11, .ref h0_12])), (h0_2, .inl (yh0_2, 60, .inr (.inl fy4))), (h0_3, .inl (yh0_3, 60, .inl fy6)), (h0_4, .inl (yh0_4, 60, .inl fy8)), (h0_5, .inl (yh0_5, 60, .inl fy10)), (h0_6, .inl (yh0_6, 60, .inl (upd fh0_6 (h0_0 : Int32).toNatClampNeg my12))), (h0_8, .inl (yh0_8, 60, .inl fh0_8)), (h0_9, .inl (yh0_9, 60, .inl fh0_9)), (h0_10, .inl (yh0_10, 60, .inr (.inl fh0_10))), (h0_11, .inl (yh0_11, 60, .inl fh0_11))] Hy16 := hP
      have hD : va_D A [(h0, .inr (0, [.int h0_0, .int h0_1, .ref h0_2, .ref h0_3, .ref h0_4, .ref h0_5, .ref h0_6, .ref h0_7, .ref h0_8, .ref h0_9, .ref h0_10, .ref h0_11, .ref h0_12])), (h0_2, .inl (yh0_2, 60, .inr (.inl fy4))), (h0_3, .inl (yh0_3, 60, .inl fy6)), (h0_4, .inl (yh0_4, 60, .inl fy8)), (h0_5, .inl (yh0_5, 60, .inl fy10)), (h0_6, .inl (yh0_6, 60, .inl (upd fh0_6 (h0_0 : Int32).toNatClampNeg my12))), (h0_8, .inl (yh0_8, 60, .inl fh0_8)), (h0_9, .inl (yh0_9, 60, .inl fh0_9)), (h0_10, .inl (yh0_10, 60, .inr (.inl fh0_10))), (h0_11, .inl (yh0_11, 60, .inl fh0_11))] := hD
      generalize (upd fh0_6 (h0_0 : Int32).toNatClampNeg my12) = fy17 at hP hD
      refine lv_aload_n hx hb dX0_add_71 rfl (lv_at hl 0 rfl) ?_
      refine va_get (D := (dC, dI)) (ci := 0) (v := .ref h0_8) (C := RX0) (T := TX0) (N := 13) hx hb hts inX0_ hown hK hP 0 rfl rfl 8 (by decide) (hts (.fieldLink RX0 31 "GateWheel$Circuit" "partCounts" "[I") (List.mem_of_getElem? (i := 7) rfl)) (fun _ h9 => h9) rfl dX0_add_72 ?_
      refine lv_aload_n hx hb dX0_add_75 rfl (lv_at hl 0 rfl) ?_
      refine va_get (D := (dC, dI)) (ci := 0) (v := .int h0_0) (C := RX0) (T := TX0) (N := 13) hx hb hts inX0_ hown hK hP 0 rfl rfl 0 (by decide) (hts (.fieldLink RX0 46 "GateWheel$Circuit" "count" "I") (List.mem_of_getElem? (i := 1) rfl)) (fun _ h9 => h9) rfl dX0_add_76 ?_
      refine lv_iconst (v := 0) hx hb dX0_add_79 (by decide) ?_
      refine va_iast hx hb hK hP hD hS 6 5 rfl rfl (IV_in by2 (by decide) (by decide)) dX0_add_80 (fun Hy18 locs hP hD hS => ?_)
      have hP : va_P (dC, dI) vwCl [(h0, .inr (0, [.int h0_0, .int h0_1, .ref h0_2, .ref h0_3, .ref h0_4, .ref h0_5, .ref h0_6, .ref h0_7, .ref h0_8, .ref h0_9, .ref h0_10, .ref h0_11, .ref h0_12])), (h0_2, .inl (yh0_2, 60, .inr (.inl fy4))), (h0_3, .inl (yh0_3, 60, .inl fy6)), (h0_4, .inl (yh0_4, 60, .inl fy8)), (h0_5, .inl (yh0_5, 60, .inl fy10)), (h0_6, .inl (yh0_6, 60, .inl fy17)), (h0_8, .inl (yh0_8, 60, .inl (upd fh0_8 (h0_0 : Int32).toNatClampNeg 0))), (h0_9, .inl (yh0_9, 60, .inl fh0_9)), (h0_10, .inl (yh0_10, 60, .inr (.inl fh0_10))), (h0_11, .inl (yh0_11, 60, .inl fh0_11))] Hy18 := hP
      have hD : va_D A [(h0, .inr (0, [.int h0_0, .int h0_1, .ref h0_2, .ref h0_3, .ref h0_4, .ref h0_5, .ref h0_6, .ref h0_7, .ref h0_8, .ref h0_9, .ref h0_10, .ref h0_11, .ref h0_12])), (h0_2, .inl (yh0_2, 60, .inr (.inl fy4))), (h0_3, .inl (yh0_3, 60, .inl fy6)), (h0_4, .inl (yh0_4, 60, .inl fy8)), (h0_5, .inl (yh0_5, 60, .inl fy10)), (h0_6, .inl (yh0_6, 60, .inl fy17)), (h0_8, .inl (yh0_8, 60, .inl (upd fh0_8 (h0_0 : Int32).toNatClampNeg 0))), (h0_9, .inl (yh0_9, 60, .inl fh0_9)), (h0_10, .inl (yh0_10, 60, .inr (.inl fh0_10))), (h0_11, .inl (yh0_11, 60, .inl fh0_11))] := hD
      have by20 : AR 0 12 (upd fh0_8 (h0_0 : Int32).toNatClampNeg 0) := AR_upd hy_fh0_8 (IV_mk (by decide) (by decide))
      generalize (upd fh0_8 (h0_0 : Int32).toNatClampNeg 0) = fy19 at hP hD by20
      refine lv_aload_n hx hb dX0_add_81 rfl (lv_at hl 0 rfl) ?_
      refine va_get (D := (dC, dI)) (ci := 0) (v := .ref h0_9) (C := RX0) (T := TX0) (N := 13) hx hb hts inX0_ hown hK hP 0 rfl rfl 9 (by decide) (hts (.fieldLink RX0 34 "GateWheel$Circuit" "lows" "[I") (List.mem_of_getElem? (i := 8) rfl)) (fun _ h9 => h9) rfl dX0_add_82 ?_
      refine lv_aload_n hx hb dX0_add_85 rfl (lv_at hl 0 rfl) ?_
      refine va_get (D := (dC, dI)) (ci := 0) (v := .int h0_0) (C := RX0) (T := TX0) (N := 13) hx hb hts inX0_ hown hK hP 0 rfl rfl 0 (by decide) (hts (.fieldLink RX0 46 "GateWheel$Circuit" "count" "I") (List.mem_of_getElem? (i := 1) rfl)) (fun _ h9 => h9) rfl dX0_add_86 ?_
      refine lv_iconst (v := 0) hx hb dX0_add_89 (by decide) ?_
      refine va_iast hx hb hK hP hD hS 7 6 rfl rfl (IV_in by2 (by decide) (by decide)) dX0_add_90 (fun Hy21 locs hP hD hS => ?_)
      have hP : va_P (dC, dI) vwCl [(h0, .inr (0, [.int h0_0, .int h0_1, .ref h0_2, .ref h0_3, .ref h0_4, .ref h0_5, .ref h0_6, .ref h0_7, .ref h0_8, .ref h0_9, .ref h0_10, .ref h0_11, .ref h0_12])), (h0_2, .inl (yh0_2, 60, .inr (.inl fy4))), (h0_3, .inl (yh0_3, 60, .inl fy6)), (h0_4, .inl (yh0_4, 60, .inl fy8)), (h0_5, .inl (yh0_5, 60, .inl fy10)), (h0_6, .inl (yh0_6, 60, .inl fy17)), (h0_8, .inl (yh0_8, 60, .inl fy19)), (h0_9, .inl (yh0_9, 60, .inl (upd fh0_9 (h0_0 : Int32).toNatClampNeg 0))), (h0_10, .inl (yh0_10, 60, .inr (.inl fh0_10))), (h0_11, .inl (yh0_11, 60, .inl fh0_11))] Hy21 := hP
      have hD : va_D A [(h0, .inr (0, [.int h0_0, .int h0_1, .ref h0_2, .ref h0_3, .ref h0_4, .ref h0_5, .ref h0_6, .ref h0_7, .ref h0_8, .ref h0_9, .ref h0_10, .ref h0_11, .ref h0_12])), (h0_2, .inl (yh0_2, 60, .inr (.inl fy4))), (h0_3, .inl (yh0_3, 60, .inl fy6)), (h0_4, .inl (yh0_4, 60, .inl fy8)), (h0_5, .inl (yh0_5, 60, .inl fy10)), (h0_6, .inl (yh0_6, 60, .inl fy17)), (h0_8, .inl (yh0_8, 60, .inl fy19)), (h0_9, .inl (yh0_9, 60, .inl (upd fh0_9 (h0_0 : Int32).toNatClampNeg 0))), (h0_10, .inl (yh0_10, 60, .inr (.inl fh0_10))), (h0_11, .inl (yh0_11, 60, .inl fh0_11))] := hD
      generalize (upd fh0_9 (h0_0 : Int32).toNatClampNeg 0) = fy22 at hP hD
      refine lv_aload_n hx hb dX0_add_91 rfl (lv_at hl 0 rfl) ?_
      refine va_get (D := (dC, dI)) (ci := 0) (v := .ref h0_10) (C := RX0) (T := TX0) (N := 13) hx hb hts inX0_ hown hK hP 0 rfl rfl 10 (by decide) (hts (.fieldLink RX0 37 "GateWheel$Circuit" "hangs" "[J") (List.mem_of_getElem? (i := 9) rfl)) (fun _ h9 => h9) rfl dX0_add_92 ?_
      refine lv_aload_n hx hb dX0_add_95 rfl (lv_at hl 0 rfl) ?_
      refine va_get (D := (dC, dI)) (ci := 0) (v := .int h0_0) (C := RX0) (T := TX0) (N := 13) hx hb hts inX0_ hown hK hP 0 rfl rfl 0 (by decide) (hts (.fieldLink RX0 46 "GateWheel$Circuit" "count" "I") (List.mem_of_getElem? (i := 1) rfl)) (fun _ h9 => h9) rfl dX0_add_96 ?_
      refine lv_lconst (v := 0) hx hb dX0_add_99 (by decide) ?_
      refine va_last hx hb hK hP hD hS 8 7 rfl rfl (IV_in by2 (by decide) (by decide)) dX0_add_100 (fun Hy23 locs hP hD hS => ?_)
      have hP : va_P (dC, dI) vwCl [(h0, .inr (0, [.int h0_0, .int h0_1, .ref h0_2, .ref h0_3, .ref h0_4, .ref h0_5, .ref h0_6, .ref h0_7, .ref h0_8, .ref h0_9, .ref h0_10, .ref h0_11, .ref h0_12])), (h0_2, .inl (yh0_2, 60, .inr (.inl fy4))), (h0_3, .inl (yh0_3, 60, .inl fy6)), (h0_4, .inl (yh0_4, 60, .inl fy8)), (h0_5, .inl (yh0_5, 60, .inl fy10)), (h0_6, .inl (yh0_6, 60, .inl fy17)), (h0_8, .inl (yh0_8, 60, .inl fy19)), (h0_9, .inl (yh0_9, 60, .inl fy22)), (h0_10, .inl (yh0_10, 60, .inr (.inl (vp_updL fh0_10 (h0_0 : Int32).toNatClampNeg 0)))), (h0_11, .inl (yh0_11, 60, .inl fh0_11))] Hy23 := hP
      have hD : va_D A [(h0, .inr (0, [.int h0_0, .int h0_1, .ref h0_2, .ref h0_3, .ref h0_4, .ref h0_5, .ref h0_6, .ref h0_7, .ref h0_8, .ref h0_9, .ref h0_10, .ref h0_11, .ref h0_12])), (h0_2, .inl (yh0_2, 60, .inr (.inl fy4))), (h0_3, .inl (yh0_3, 60, .inl fy6)), (h0_4, .inl (yh0_4, 60, .inl fy8)), (h0_5, .inl (yh0_5, 60, .inl fy10)), (h0_6, .inl (yh0_6, 60, .inl fy17)), (h0_8, .inl (yh0_8, 60, .inl fy19)), (h0_9, .inl (yh0_9, 60, .inl fy22)), (h0_10, .inl (yh0_10, 60, .inr (.inl (vp_updL fh0_10 (h0_0 : Int32).toNatClampNeg 0)))), (h0_11, .inl (yh0_11, 60, .inl fh0_11))] := hD
      generalize (vp_updL fh0_10 (h0_0 : Int32).toNatClampNeg 0) = fy24 at hP hD
      refine lv_aload_n hx hb dX0_add_101 rfl (lv_at hl 0 rfl) ?_
      refine va_get (D := (dC, dI)) (ci := 0) (v := .ref h0_11) (C := RX0) (T := TX0) (N := 13) hx hb hts inX0_ hown hK hP 0 rfl rfl 11 (by decide) (hts (.fieldLink RX0 40 "GateWheel$Circuit" "levels" "[I") (List.mem_of_getElem? (i := 10) rfl)) (fun _ h9 => h9) rfl dX0_add_102 ?_
      refine lv_aload_n hx hb dX0_add_105 rfl (lv_at hl 0 rfl) ?_
      refine va_get (D := (dC, dI)) (ci := 0) (v := .int h0_0) (C := RX0) (T := TX0) (N := 13) hx hb hts inX0_ hown hK hP 0 rfl rfl 0 (by decide) (hts (.fieldLink RX0 46 "GateWheel$Circuit" "count" "I") (List.mem_of_getElem? (i := 1) rfl)) (fun _ h9 => h9) rfl dX0_add_106 ?_
      refine lv_iconst (v := 0) hx hb dX0_add_109 (by decide) ?_
      refine va_iast hx hb hK hP hD hS 9 8 rfl rfl (IV_in by2 (by decide) (by decide)) dX0_add_110 (fun Hy25 locs hP hD hS => ?_)
      have hP : va_P (dC, dI) vwCl [(h0, .inr (0, [.int h0_0, .int h0_1, .ref h0_2, .ref h0_3, .ref h0_4, .ref h0_5, .ref h0_6, .ref h0_7, .ref h0_8, .ref h0_9, .ref h0_10, .ref h0_11, .ref h0_12])), (h0_2, .inl (yh0_2, 60, .inr (.inl fy4))), (h0_3, .inl (yh0_3, 60, .inl fy6)), (h0_4, .inl (yh0_4, 60, .inl fy8)), (h0_5, .inl (yh0_5, 60, .inl fy10)), (h0_6, .inl (yh0_6, 60, .inl fy17)), (h0_8, .inl (yh0_8, 60, .inl fy19)), (h0_9, .inl (yh0_9, 60, .inl fy22)), (h0_10, .inl (yh0_10, 60, .inr (.inl fy24))), (h0_11, .inl (yh0_11, 60, .inl (upd fh0_11 (h0_0 : Int32).toNatClampNeg 0)))] Hy25 := hP
      have hD : va_D A [(h0, .inr (0, [.int h0_0, .int h0_1, .ref h0_2, .ref h0_3, .ref h0_4, .ref h0_5, .ref h0_6, .ref h0_7, .ref h0_8, .ref h0_9, .ref h0_10, .ref h0_11, .ref h0_12])), (h0_2, .inl (yh0_2, 60, .inr (.inl fy4))), (h0_3, .inl (yh0_3, 60, .inl fy6)), (h0_4, .inl (yh0_4, 60, .inl fy8)), (h0_5, .inl (yh0_5, 60, .inl fy10)), (h0_6, .inl (yh0_6, 60, .inl fy17)), (h0_8, .inl (yh0_8, 60, .inl fy19)), (h0_9, .inl (yh0_9, 60, .inl fy22)), (h0_10, .inl (yh0_10, 60, .inr (.inl fy24))), (h0_11, .inl (yh0_11, 60, .inl (upd fh0_11 (h0_0 : Int32).toNatClampNeg 0)))] := hD
      generalize (upd fh0_11 (h0_0 : Int32).toNatClampNeg 0) = fy26 at hP hD
      refine lv_iload hx hb dX0_add_111 (lv_at hl 3 rfl) ?_
      refine lv_iconst (v := 3) hx hb dX0_add_113 (by decide) ?_
      refine W_abs (fun GWy29 eGy30 => ?_)
      have jny31 : ∀ (my28 : Int32) (HGWy29 : Heap) (locs : List Loc) (ls : Array Slot), va_P (dC, dI) vwCl [(h0, .inr (0, [.int h0_0, .int my28, .ref h0_2, .ref h0_3, .ref h0_4, .ref h0_5, .ref h0_6, .ref h0_7, .ref h0_8, .ref h0_9, .ref h0_10, .ref h0_11, .ref h0_12])), (h0_2, .inl (yh0_2, 60, .inr (.inl fy4))), (h0_3, .inl (yh0_3, 60, .inl fy6)), (h0_4, .inl (yh0_4, 60, .inl fy8)), (h0_5, .inl (yh0_5, 60, .inl fy10)), (h0_6, .inl (yh0_6, 60, .inl fy17)), (h0_8, .inl (yh0_8, 60, .inl fy19)), (h0_9, .inl (yh0_9, 60, .inl fy22)), (h0_10, .inl (yh0_10, 60, .inr (.inl fy24))), (h0_11, .inl (yh0_11, 60, .inl fy26))] HGWy29 → va_D A [(h0, .inr (0, [.int h0_0, .int my28, .ref h0_2, .ref h0_3, .ref h0_4, .ref h0_5, .ref h0_6, .ref h0_7, .ref h0_8, .ref h0_9, .ref h0_10, .ref h0_11, .ref h0_12])), (h0_2, .inl (yh0_2, 60, .inr (.inl fy4))), (h0_3, .inl (yh0_3, 60, .inl fy6)), (h0_4, .inl (yh0_4, 60, .inl fy8)), (h0_5, .inl (yh0_5, 60, .inl fy10)), (h0_6, .inl (yh0_6, 60, .inl fy17)), (h0_8, .inl (yh0_8, 60, .inl fy19)), (h0_9, .inl (yh0_9, 60, .inl fy22)), (h0_10, .inl (yh0_10, 60, .inr (.inl fy24))), (h0_11, .inl (yh0_11, 60, .inl fy26))] → va_S A s.heap HGWy29 locs → lv_has ls 5 [(0, .ref h0), (1, .long p1), (3, .int p2), (4, .int p3)] → GWy29 HGWy29 locs 0 0 (F0 m 127 ls []) := by
        intro my28 HGWy29 locs ls hP hD hS hl
        refine (eGy30 _ _ _ _ _).mpr ?_
        refine lv_aload_n hx hb dX0_add_127 rfl (lv_at hl 0 rfl) ?_
        refine lv_dup hx hb dX0_add_128 rfl ?_
        refine va_get (D := (dC, dI)) (ci := 0) (v := .int h0_0) (C := RX0) (T := TX0) (N := 13) hx hb hts inX0_ hown hK hP 0 rfl rfl 0 (by decide) (hts (.fieldLink RX0 46 "GateWheel$Circuit" "count" "I") (List.mem_of_getElem? (i := 1) rfl)) (fun _ h9 => h9) rfl dX0_add_129 ?_
        refine lv_iconst (v := 1) hx hb dX0_add_132 (by decide) ?_
        refine lv_iadd hx hb dX0_add_133 ?_
        refine lv_topi (fun zy32 ezy32 => ?_)
        have by33 : IV 1 60 zy32 := IV_add ezy32 by2 (IV_mk (a := 1) (b := 1) (by decide) (by decide)) (by decide) (by decide) (by decide) (by decide)
        refine va_put (D := (dC, dI)) (ci := 0) (v := .int zy32) (ty := .int) (C := RX0) (T := TX0) (N := 13) hx hb hts inX0_ tyX0 tyX0_ok nmX0 hown hK hP hD hS 0 rfl rfl 0 (by decide) (hts (.fieldLink RX0 46 "GateWheel$Circuit" "count" "I") (List.mem_of_getElem? (i := 1) rfl)) (fun _ h9 => h9) rfl (by decide +kernel) rfl rfl (Nat.le_of_ble_eq_true rfl) dX0_add_134 (fun Hy34 locs hP hD hS => ?_)
        have hP : va_P (dC, dI) vwCl [(h0, .inr (0, [.int zy32, .int my28, .ref h0_2, .ref h0_3, .ref h0_4, .ref h0_5, .ref h0_6, .ref h0_7, .ref h0_8, .ref h0_9, .ref h0_10, .ref h0_11, .ref h0_12])), (h0_2, .inl (yh0_2, 60, .inr (.inl fy4))), (h0_3, .inl (yh0_3, 60, .inl fy6)), (h0_4, .inl (yh0_4, 60, .inl fy8)), (h0_5, .inl (yh0_5, 60, .inl fy10)), (h0_6, .inl (yh0_6, 60, .inl fy17)), (h0_8, .inl (yh0_8, 60, .inl fy19)), (h0_9, .inl (yh0_9, 60, .inl fy22)), (h0_10, .inl (yh0_10, 60, .inr (.inl fy24))), (h0_11, .inl (yh0_11, 60, .inl fy26))] Hy34 := hP
        have hD : va_D A [(h0, .inr (0, [.int zy32, .int my28, .ref h0_2, .ref h0_3, .ref h0_4, .ref h0_5, .ref h0_6, .ref h0_7, .ref h0_8, .ref h0_9, .ref h0_10, .ref h0_11, .ref h0_12])), (h0_2, .inl (yh0_2, 60, .inr (.inl fy4))), (h0_3, .inl (yh0_3, 60, .inl fy6)), (h0_4, .inl (yh0_4, 60, .inl fy8)), (h0_5, .inl (yh0_5, 60, .inl fy10)), (h0_6, .inl (yh0_6, 60, .inl fy17)), (h0_8, .inl (yh0_8, 60, .inl fy19)), (h0_9, .inl (yh0_9, 60, .inl fy22)), (h0_10, .inl (yh0_10, 60, .inr (.inl fy24))), (h0_11, .inl (yh0_11, 60, .inl fy26))] := hD
        exact W.vret hx hb hr (fun t ht hW => ⟨⟨(), rfl, trivial, zy32, my28, fy4, fy6, fy8, fy10, fy17, fy19, fy22, fy24, fy26, by33, by20, by rw [ht]; exact hP, va_K.moved hW.alike hK, hD⟩, hS.F ht⟩) hS.2.2 dX0_add_137
      refine (eGy30 _ _ _ _ _).mpr ?_
      refine lv_icmp_ne (tgt := 127) hx hb dX0_add_114 (by decide) (fun cy27 => ?_) (fun cy27 => ?_)
      · have h_cy27 := cy27
        exact (eGy30 _ _ _ _ _).mp (jny31 h0_1 _ _ _ hP hD hS (lv_sub hl [0, 1, 2, 3] rfl))
      · have h_cy27 := cy27
        have by35 : IV 3 3 p3 := IV_eq_l cy27 (IV_top p3) (IV_mk (a := 3) (b := 3) (by decide) (by decide)) (by decide) (by decide)
        refine lv_aload_n hx hb dX0_add_117 rfl (lv_at hl 0 rfl) ?_
        refine lv_dup hx hb dX0_add_118 rfl ?_
        refine va_get (D := (dC, dI)) (ci := 0) (v := .int h0_1) (C := RX0) (T := TX0) (N := 13) hx hb hts inX0_ hown hK hP 0 rfl rfl 1 (by decide) (hts (.fieldLink RX0 50 "GateWheel$Circuit" "registers" "I") (List.mem_of_getElem? (i := 11) rfl)) (fun _ h9 => h9) rfl dX0_add_119 ?_
        refine lv_iconst (v := 1) hx hb dX0_add_122 (by decide) ?_
        refine lv_iadd hx hb dX0_add_123 ?_
        refine lv_topi (fun zy36 ezy36 => ?_)
        refine va_put (D := (dC, dI)) (ci := 0) (v := .int zy36) (ty := .int) (C := RX0) (T := TX0) (N := 13) hx hb hts inX0_ tyX0 tyX0_ok nmX0 hown hK hP hD hS 0 rfl rfl 1 (by decide) (hts (.fieldLink RX0 50 "GateWheel$Circuit" "registers" "I") (List.mem_of_getElem? (i := 11) rfl)) (fun _ h9 => h9) rfl (by decide +kernel) rfl rfl (Nat.le_of_ble_eq_true rfl) dX0_add_124 (fun Hy37 locs hP hD hS => ?_)
        have hP : va_P (dC, dI) vwCl [(h0, .inr (0, [.int h0_0, .int zy36, .ref h0_2, .ref h0_3, .ref h0_4, .ref h0_5, .ref h0_6, .ref h0_7, .ref h0_8, .ref h0_9, .ref h0_10, .ref h0_11, .ref h0_12])), (h0_2, .inl (yh0_2, 60, .inr (.inl fy4))), (h0_3, .inl (yh0_3, 60, .inl fy6)), (h0_4, .inl (yh0_4, 60, .inl fy8)), (h0_5, .inl (yh0_5, 60, .inl fy10)), (h0_6, .inl (yh0_6, 60, .inl fy17)), (h0_8, .inl (yh0_8, 60, .inl fy19)), (h0_9, .inl (yh0_9, 60, .inl fy22)), (h0_10, .inl (yh0_10, 60, .inr (.inl fy24))), (h0_11, .inl (yh0_11, 60, .inl fy26))] Hy37 := hP
        have hD : va_D A [(h0, .inr (0, [.int h0_0, .int zy36, .ref h0_2, .ref h0_3, .ref h0_4, .ref h0_5, .ref h0_6, .ref h0_7, .ref h0_8, .ref h0_9, .ref h0_10, .ref h0_11, .ref h0_12])), (h0_2, .inl (yh0_2, 60, .inr (.inl fy4))), (h0_3, .inl (yh0_3, 60, .inl fy6)), (h0_4, .inl (yh0_4, 60, .inl fy8)), (h0_5, .inl (yh0_5, 60, .inl fy10)), (h0_6, .inl (yh0_6, 60, .inl fy17)), (h0_8, .inl (yh0_8, 60, .inl fy19)), (h0_9, .inl (yh0_9, 60, .inl fy22)), (h0_10, .inl (yh0_10, 60, .inr (.inl fy24))), (h0_11, .inl (yh0_11, 60, .inl fy26))] := hD
        exact (eGy30 _ _ _ _ _).mp (jny31 zy36 _ _ _ hP hD hS (lv_sub hl [0, 1, 2, 3] rfl))
    refine (eGy14 _ _ _ _ _).mpr ?_
    refine lv_icmp_ne (tgt := 69) hx hb dX0_add_62 (by decide) (fun cy11 => ?_) (fun cy11 => ?_)
    · have h_cy11 := cy11
      refine lv_iconst (v := 0) hx hb dX0_add_69 (by decide) ?_
      exact (eGy14 _ _ _ _ _).mp (jny15 0 _ _ _ (IV_mk (by decide) (by decide)) hP hD hS (lv_sub hl [0, 1, 2, 3] rfl))
    · have h_cy11 := cy11
      have by38 : IV 2 2 p3 := IV_eq_l cy11 (IV_top p3) (IV_mk (a := 2) (b := 2) (by decide) (by decide)) (by decide) (by decide)
      refine lv_iconst (v := 1) hx hb dX0_add_65 (by decide) ?_
      refine lv_goto (tgt := 70) hx hb dX0_add_66 (by decide) ?_
      exact (eGy14 _ _ _ _ _).mp (jny15 1 _ _ _ (IV_mk (by decide) (by decide)) hP hD hS (lv_sub hl [0, 1, 2, 3] rfl))
  · have h_cy1 := cy1
    have by39 : IV 60 60 h0_0 := IV_nlt_l cy1 hy_h0_0 (IV_mk (a := 60) (b := 60) (by decide) (by decide)) (by decide) (by decide)
    exact W.vret hx hb hr (fun t ht hW => ⟨⟨(), rfl, trivial, h0_0, h0_1, fh0_2, fh0_3, fh0_4, fh0_5, fh0_6, fh0_8, fh0_9, fh0_10, fh0_11, (IV_wk by39 (by decide) (by decide)), hy_fh0_8, by rw [ht]; exact hP, va_K.moved hW.alike hK, hD⟩, hS.F ht⟩) hS.2.2 dX0_add_9

set_option maxHeartbeats 4000000 in
set_option maxRecDepth 100000 in
theorem s_X0_addPart (l : Launch) (dC : Nat → ClassId) (dI : Nat → Nat → Nat) (h0 : Nat) (h0_4 : Nat) (h0_7 : Nat) (h0_8 : Nat) (h0_10 : Nat) (h0_0 : Int32) (h0_1 : Int32) (h0_2 : Nat) (h0_3 : Nat) (h0_5 : Nat) (h0_6 : Nat) (h0_9 : Nat) (h0_11 : Nat) (h0_12 : Nat) (yh0_4 : ClassId) (fh0_4 : Nat → Int32) (yh0_7 : ClassId) (fh0_7 : Nat → Int32) (yh0_8 : ClassId) (fh0_8 : Nat → Int32) (yh0_10 : ClassId) (fh0_10 : Nat → Int64) (p1 : Int32) (p2 : Int32) (sz : Nat) (hy_h0_0 : IV 0 60 h0_0) (hy_fh0_7 : AR 0 59 fh0_7) (hy_fh0_8 : AR 0 12 fh0_8) : Met l yX0_addPart wsX0_addPart ({ frames := 1, cells := 0, slots := 0, locals := 21 }) (va_Pc [.ref h0, .int p1, .int p2] (fun U => U.heap.size = sz ∧ va_P (dC, dI) vwCl [(h0, .inr (0, [.int h0_0, .int h0_1, .ref h0_2, .ref h0_3, .ref h0_4, .ref h0_5, .ref h0_6, .ref h0_7, .ref h0_8, .ref h0_9, .ref h0_10, .ref h0_11, .ref h0_12])), (h0_4, .inl (yh0_4, 60, .inl fh0_4)), (h0_7, .inl (yh0_7, 720, .inl fh0_7)), (h0_8, .inl (yh0_8, 60, .inl fh0_8)), (h0_10, .inl (yh0_10, 60, .inr (.inl fh0_10)))] U.heap ∧ va_K (dC, dI) vwCl [(yh0_4, .int), (yh0_7, .int), (yh0_8, .int), (yh0_10, .long)] U ∧ va_D (fun _ => True) [(h0, .inr (0, [.int h0_0, .int h0_1, .ref h0_2, .ref h0_3, .ref h0_4, .ref h0_5, .ref h0_6, .ref h0_7, .ref h0_8, .ref h0_9, .ref h0_10, .ref h0_11, .ref h0_12])), (h0_4, .inl (yh0_4, 60, .inl fh0_4)), (h0_7, .inl (yh0_7, 720, .inl fh0_7)), (h0_8, .inl (yh0_8, 60, .inl fh0_8)), (h0_10, .inl (yh0_10, 60, .inr (.inl fh0_10)))])) (va_Qv (fun (_ : Unit) => True) (fun (_ : Unit) (t : State) => ∃ (fy42 : Nat → Int32), ∃ (fy43 : Nat → Int32), ∃ (fy44 : Nat → Int64), AR 0 59 fy42 ∧ AR 0 12 fy43 ∧ va_P (dC, dI) vwCl [(h0, .inr (0, [.int h0_0, .int h0_1, .ref h0_2, .ref h0_3, .ref h0_4, .ref h0_5, .ref h0_6, .ref h0_7, .ref h0_8, .ref h0_9, .ref h0_10, .ref h0_11, .ref h0_12])), (h0_4, .inl (yh0_4, 60, .inl fh0_4)), (h0_7, .inl (yh0_7, 720, .inl fy42)), (h0_8, .inl (yh0_8, 60, .inl fy43)), (h0_10, .inl (yh0_10, 60, .inr (.inl fy44)))] t.heap ∧ va_K (dC, dI) vwCl [(yh0_4, .int), (yh0_7, .int), (yh0_8, .int), (yh0_10, .long)] t ∧ va_D (va_A [(h0, .inr (0, [.int h0_0, .int h0_1, .ref h0_2, .ref h0_3, .ref h0_4, .ref h0_5, .ref h0_6, .ref h0_7, .ref h0_8, .ref h0_9, .ref h0_10, .ref h0_11, .ref h0_12])), (h0_4, .inl (yh0_4, 60, .inl fh0_4)), (h0_7, .inl (yh0_7, 720, .inl fh0_7)), (h0_8, .inl (yh0_8, 60, .inl fh0_8)), (h0_10, .inl (yh0_10, 60, .inr (.inl fh0_10)))] sz) [(h0, .inr (0, [.int h0_0, .int h0_1, .ref h0_2, .ref h0_3, .ref h0_4, .ref h0_5, .ref h0_6, .ref h0_7, .ref h0_8, .ref h0_9, .ref h0_10, .ref h0_11, .ref h0_12])), (h0_4, .inl (yh0_4, 60, .inl fh0_4)), (h0_7, .inl (yh0_7, 720, .inl fy42)), (h0_8, .inl (yh0_8, 60, .inl fy43)), (h0_10, .inl (yh0_10, 60, .inr (.inl fy44)))]) (va_A [(h0, .inr (0, [.int h0_0, .int h0_1, .ref h0_2, .ref h0_3, .ref h0_4, .ref h0_5, .ref h0_6, .ref h0_7, .ref h0_8, .ref h0_9, .ref h0_10, .ref h0_11, .ref h0_12])), (h0_4, .inl (yh0_4, 60, .inl fh0_4)), (h0_7, .inl (yh0_7, 720, .inl fh0_7)), (h0_8, .inl (yh0_8, 60, .inl fh0_8)), (h0_10, .inl (yh0_10, 60, .inr (.inl fh0_10)))] sz)) 0 0 (va_A [(h0, .inr (0, [.int h0_0, .int h0_1, .ref h0_2, .ref h0_3, .ref h0_4, .ref h0_5, .ref h0_6, .ref h0_7, .ref h0_8, .ref h0_9, .ref h0_10, .ref h0_11, .ref h0_12])), (h0_4, .inl (yh0_4, 60, .inl fh0_4)), (h0_7, .inl (yh0_7, 720, .inl fh0_7)), (h0_8, .inl (yh0_8, 60, .inl fh0_8)), (h0_10, .inl (yh0_10, 60, .inr (.inl fh0_10)))] sz) := by
  refine Met.ofW (cc := cX0_addPart) (maxL := 3) (ret := none) (by decide +kernel) rfl ?_
  intro p e s m args below meth c s₁ B hml hv
  obtain ⟨rfl, hsz, hP, hK, hD0⟩ := hv
  have hx := B.exec
  have hb := B.bytes
  have hr := B.returns
  have hts := atoms_spec (ws := wsX0_addPart) B.pre
  have hown : s.vm.findClass RX0 = some m.cls := findClass_of_methodNamed B.named
  have hlocks := B.notSynchronized
  have inX0_ : ∀ w ∈ wsX00, w ∈ wsX0_addPart := fun _ h => List.mem_cons_of_mem _ (List.mem_append_right _ h)
  subst hsz
  have hD := hD0.self (sz := s.heap.size)
  generalize hAe : va_A [(h0, .inr (0, [.int h0_0, .int h0_1, .ref h0_2, .ref h0_3, .ref h0_4, .ref h0_5, .ref h0_6, .ref h0_7, .ref h0_8, .ref h0_9, .ref h0_10, .ref h0_11, .ref h0_12])), (h0_4, .inl (yh0_4, 60, .inl fh0_4)), (h0_7, .inl (yh0_7, 720, .inl fh0_7)), (h0_8, .inl (yh0_8, 60, .inl fh0_8)), (h0_10, .inl (yh0_10, 60, .inr (.inl fh0_10)))] s.heap.size = A at hD ⊢
  have hA : ∀ q : Nat, s.heap.size ≤ q → A q := fun q h => by rw [← hAe]; exact Or.inr h
  have hS : va_S A s.heap s.heap [] := va_S.rf
  have hP : va_P (dC, dI) vwCl [(h0, .inr (0, [.int h0_0, .int h0_1, .ref h0_2, .ref h0_3, .ref h0_4, .ref h0_5, .ref h0_6, .ref h0_7, .ref h0_8, .ref h0_9, .ref h0_10, .ref h0_11, .ref h0_12])), (h0_4, .inl (yh0_4, 60, .inl fh0_4)), (h0_7, .inl (yh0_7, 720, .inl fh0_7)), (h0_8, .inl (yh0_8, 60, .inl fh0_8)), (h0_10, .inl (yh0_10, 60, .inr (.inl fh0_10)))] s.heap := hP
  have hl := lv_entry ([.ref h0, .int p1, .int p2]) (n := 3) (Nat.le_of_ble_eq_true rfl)
  rw [lg_entry_eq]
  generalize (lg_sl ([.ref h0, .int p1, .int p2]) ++ List.replicate (3 - (lg_sl ([.ref h0, .int p1, .int p2])).length) Slot.unset).toArray = ls at hl ⊢
  have hl : lv_has ls 3 [(0, .ref h0), (1, .int p1), (2, .int p2)] := hl
  refine lv_aload_n hx hb dX0_addPart_0 rfl (lv_at hl 0 rfl) ?_
  refine lv_iload_n hx hb dX0_addPart_1 rfl (lv_at hl 1 rfl) ?_
  have hPc := hP.sub (ws' := [(h0, .inr (0, [.int h0_0, .int h0_1, .ref h0_2, .ref h0_3, .ref h0_4, .ref h0_5, .ref h0_6, .ref h0_7, .ref h0_8, .ref h0_9, .ref h0_10, .ref h0_11, .ref h0_12]))]) [0] rfl
  have hDc := hD.sub (ws' := [(h0, .inr (0, [.int h0_0, .int h0_1, .ref h0_2, .ref h0_3, .ref h0_4, .ref h0_5, .ref h0_6, .ref h0_7, .ref h0_8, .ref h0_9, .ref h0_10, .ref h0_11, .ref h0_12]))]) [0] (by decide) rfl
  have hKc := hK.sub (tys' := []) [] rfl
  have hFc := va_free (wc := [(h0, .inr (0, [.int h0_0, .int h0_1, .ref h0_2, .ref h0_3, .ref h0_4, .ref h0_5, .ref h0_6, .ref h0_7, .ref h0_8, .ref h0_9, .ref h0_10, .ref h0_11, .ref h0_12]))]) hD hS hA [0] rfl
  refine va_calli (va_runV (As := [.int p1]) (rest := []) ⟨hx, hb, hml, hown, hts⟩ (s_X0_has l dC dI h0 h0_0 h0_1 h0_2 h0_3 h0_4 h0_5 h0_6 h0_7 h0_8 h0_9 h0_10 h0_11 h0_12 p1 s.heap.size hy_h0_0) (cwV 1 hts gX0_addPart_X0_has rfl rfl rfl (by decide +kernel) ⟨Nat.le_of_ble_eq_true rfl, Nat.le_of_ble_eq_true rfl⟩) ⟨fun a U g mk q => by obtain ⟨q0, q1, qP, qK, qD⟩ := q; exact ⟨q0, q1, qP, va_K.moved (u := U) (U := U.calling g mk a) (Vm.Alike.refl U.vm) qK, qD⟩, va_recv hKc hPc (ci := 0) (q0 := 0) rfl rfl, fun U hU hW => ⟨rfl, by rw [hU], by rw [hU]; exact hPc, va_K.moved hW.alike hKc, hDc.weaken (fun _ _ _ _ => trivial)⟩⟩ rfl rfl hl.1 rfl (lv_room (Nat.le_of_ble_eq_true rfl)) dX0_addPart_2 ⟨Nat.le_of_ble_eq_true rfl, Nat.le_of_ble_eq_true rfl⟩) hS (fun q _ h => hFc q h) hFc (fun ry2 u t Hy1 locs ht hvm hw hB hz1 hk1 hS => ?_)
  obtain ⟨hP1, hK1, hD1⟩ := hB
  rw [ht] at hP1
  obtain ⟨hP, hD⟩ := va_join (wr := [(h0_4, .inl (yh0_4, 60, .inl fh0_4)), (h0_7, .inl (yh0_7, 720, .inl fh0_7)), (h0_8, .inl (yh0_8, 60, .inl fh0_8)), (h0_10, .inl (yh0_10, 60, .inr (.inl fh0_10)))]) (w1 := [(h0, .inr (0, [.int h0_0, .int h0_1, .ref h0_2, .ref h0_3, .ref h0_4, .ref h0_5, .ref h0_6, .ref h0_7, .ref h0_8, .ref h0_9, .ref h0_10, .ref h0_11, .ref h0_12]))]) hP hD [0] [1, 2, 3, 4] rfl rfl (by decide) (by decide) hk1 hFc hP1 hD1
  have hP := hP.sub (ws' := [(h0, .inr (0, [.int h0_0, .int h0_1, .ref h0_2, .ref h0_3, .ref h0_4, .ref h0_5, .ref h0_6, .ref h0_7, .ref h0_8, .ref h0_9, .ref h0_10, .ref h0_11, .ref h0_12])), (h0_4, .inl (yh0_4, 60, .inl fh0_4)), (h0_7, .inl (yh0_7, 720, .inl fh0_7)), (h0_8, .inl (yh0_8, 60, .inl fh0_8)), (h0_10, .inl (yh0_10, 60, .inr (.inl fh0_10)))]) [4, 0, 1, 2, 3] rfl
  have hD := hD.sub (ws' := [(h0, .inr (0, [.int h0_0, .int h0_1, .ref h0_2, .ref h0_3, .ref h0_4, .ref h0_5, .ref h0_6, .ref h0_7, .ref h0_8, .ref h0_9, .ref h0_10, .ref h0_11, .ref h0_12])), (h0_4, .inl (yh0_4, 60, .inl fh0_4)), (h0_7, .inl (yh0_7, 720, .inl fh0_7)), (h0_8, .inl (yh0_8, 60, .inl fh0_8)), (h0_10, .inl (yh0_10, 60, .inr (.inl fh0_10)))]) [4, 0, 1, 2, 3] (by decide) rfl
  have hP : va_P (dC, dI) vwCl [(h0, .inr (0, [.int h0_0, .int h0_1, .ref h0_2, .ref h0_3, .ref h0_4, .ref h0_5, .ref h0_6, .ref h0_7, .ref h0_8, .ref h0_9, .ref h0_10, .ref h0_11, .ref h0_12])), (h0_4, .inl (yh0_4, 60, .inl fh0_4)), (h0_7, .inl (yh0_7, 720, .inl fh0_7)), (h0_8, .inl (yh0_8, 60, .inl fh0_8)), (h0_10, .inl (yh0_10, 60, .inr (.inl fh0_10)))] Hy1 := hP
  have hD : va_D A [(h0, .inr (0, [.int h0_0, .int h0_1, .ref h0_2, .ref h0_3, .ref h0_4, .ref h0_5, .ref h0_6, .ref h0_7, .ref h0_8, .ref h0_9, .ref h0_10, .ref h0_11, .ref h0_12])), (h0_4, .inl (yh0_4, 60, .inl fh0_4)), (h0_7, .inl (yh0_7, 720, .inl fh0_7)), (h0_8, .inl (yh0_8, 60, .inl fh0_8)), (h0_10, .inl (yh0_10, 60, .inr (.inl fh0_10)))] := hD
  obtain ⟨by3, hqy4⟩ : IV 0 1 ry2 ∧ (¬ ry2 = 0 → IV 0 59 p1) := hw
  refine lv_if_eq (tgt := 27) hx hb dX0_addPart_5 (by decide) (fun cy5 => ?_) (fun cy5 => ?_)
  · have h_cy5 := cy5
    have by6 : IV 0 0 ry2 := IV_eq_l cy5 by3 (IV_mk (a := 0) (b := 0) (by decide) (by decide)) (by decide) (by decide)
    exact W.vret hx hb hr (fun t ht hW => ⟨⟨(), rfl, trivial, fh0_7, fh0_8, fh0_10, hy_fh0_7, hy_fh0_8, by rw [ht]; exact hP, va_K.moved hW.alike hK, hD⟩, hS.F ht⟩) hS.2.2 dX0_addPart_27
  · have h_cy5 := cy5
    have by7 : IV 0 59 p1 := hqy4 cy5
    have by8 : IV 1 1 ry2 := IV_ne_lo cy5 by3 (IV_mk (a := 0) (b := 0) (by decide) (by decide)) (by decide) (by decide) (by decide)
    refine lv_aload_n hx hb dX0_addPart_8 rfl (lv_at hl 0 rfl) ?_
    refine lv_iload_n hx hb dX0_addPart_9 rfl (lv_at hl 2 rfl) ?_
    have hPc := hP.sub (ws' := [(h0, .inr (0, [.int h0_0, .int h0_1, .ref h0_2, .ref h0_3, .ref h0_4, .ref h0_5, .ref h0_6, .ref h0_7, .ref h0_8, .ref h0_9, .ref h0_10, .ref h0_11, .ref h0_12]))]) [0] rfl
    have hDc := hD.sub (ws' := [(h0, .inr (0, [.int h0_0, .int h0_1, .ref h0_2, .ref h0_3, .ref h0_4, .ref h0_5, .ref h0_6, .ref h0_7, .ref h0_8, .ref h0_9, .ref h0_10, .ref h0_11, .ref h0_12]))]) [0] (by decide) rfl
    have hKc := hK.sub (tys' := []) [] rfl
    have hFc := va_free (wc := [(h0, .inr (0, [.int h0_0, .int h0_1, .ref h0_2, .ref h0_3, .ref h0_4, .ref h0_5, .ref h0_6, .ref h0_7, .ref h0_8, .ref h0_9, .ref h0_10, .ref h0_11, .ref h0_12]))]) hD hS hA [0] rfl
    refine va_calli (va_runV (As := [.int p2]) (rest := []) ⟨hx, hb, hml, hown, hts⟩ (s_X0_has l dC dI h0 h0_0 h0_1 h0_2 h0_3 h0_4 h0_5 h0_6 h0_7 h0_8 h0_9 h0_10 h0_11 h0_12 p2 Hy1.size hy_h0_0) (cwV 1 hts gX0_addPart_X0_has rfl rfl rfl (by decide +kernel) ⟨Nat.le_of_ble_eq_true rfl, Nat.le_of_ble_eq_true rfl⟩) ⟨fun a U g mk q => by obtain ⟨q0, q1, qP, qK, qD⟩ := q; exact ⟨q0, q1, qP, va_K.moved (u := U) (U := U.calling g mk a) (Vm.Alike.refl U.vm) qK, qD⟩, va_recv hKc hPc (ci := 0) (q0 := 0) rfl rfl, fun U hU hW => ⟨rfl, by rw [hU], by rw [hU]; exact hPc, va_K.moved hW.alike hKc, hDc.weaken (fun _ _ _ _ => trivial)⟩⟩ rfl rfl hl.1 rfl (lv_room (Nat.le_of_ble_eq_true rfl)) dX0_addPart_10 ⟨Nat.le_of_ble_eq_true rfl, Nat.le_of_ble_eq_true rfl⟩) hS (fun q _ h => hFc q h) hFc (fun ry10 u t Hy9 locs ht hvm hw hB hz1 hk1 hS => ?_)
    obtain ⟨hP1, hK1, hD1⟩ := hB
    rw [ht] at hP1
    obtain ⟨hP, hD⟩ := va_join (wr := [(h0_4, .inl (yh0_4, 60, .inl fh0_4)), (h0_7, .inl (yh0_7, 720, .inl fh0_7)), (h0_8, .inl (yh0_8, 60, .inl fh0_8)), (h0_10, .inl (yh0_10, 60, .inr (.inl fh0_10)))]) (w1 := [(h0, .inr (0, [.int h0_0, .int h0_1, .ref h0_2, .ref h0_3, .ref h0_4, .ref h0_5, .ref h0_6, .ref h0_7, .ref h0_8, .ref h0_9, .ref h0_10, .ref h0_11, .ref h0_12]))]) hP hD [0] [1, 2, 3, 4] rfl rfl (by decide) (by decide) hk1 hFc hP1 hD1
    have hP := hP.sub (ws' := [(h0, .inr (0, [.int h0_0, .int h0_1, .ref h0_2, .ref h0_3, .ref h0_4, .ref h0_5, .ref h0_6, .ref h0_7, .ref h0_8, .ref h0_9, .ref h0_10, .ref h0_11, .ref h0_12])), (h0_4, .inl (yh0_4, 60, .inl fh0_4)), (h0_7, .inl (yh0_7, 720, .inl fh0_7)), (h0_8, .inl (yh0_8, 60, .inl fh0_8)), (h0_10, .inl (yh0_10, 60, .inr (.inl fh0_10)))]) [4, 0, 1, 2, 3] rfl
    have hD := hD.sub (ws' := [(h0, .inr (0, [.int h0_0, .int h0_1, .ref h0_2, .ref h0_3, .ref h0_4, .ref h0_5, .ref h0_6, .ref h0_7, .ref h0_8, .ref h0_9, .ref h0_10, .ref h0_11, .ref h0_12])), (h0_4, .inl (yh0_4, 60, .inl fh0_4)), (h0_7, .inl (yh0_7, 720, .inl fh0_7)), (h0_8, .inl (yh0_8, 60, .inl fh0_8)), (h0_10, .inl (yh0_10, 60, .inr (.inl fh0_10)))]) [4, 0, 1, 2, 3] (by decide) rfl
    have hP : va_P (dC, dI) vwCl [(h0, .inr (0, [.int h0_0, .int h0_1, .ref h0_2, .ref h0_3, .ref h0_4, .ref h0_5, .ref h0_6, .ref h0_7, .ref h0_8, .ref h0_9, .ref h0_10, .ref h0_11, .ref h0_12])), (h0_4, .inl (yh0_4, 60, .inl fh0_4)), (h0_7, .inl (yh0_7, 720, .inl fh0_7)), (h0_8, .inl (yh0_8, 60, .inl fh0_8)), (h0_10, .inl (yh0_10, 60, .inr (.inl fh0_10)))] Hy9 := hP
    have hD : va_D A [(h0, .inr (0, [.int h0_0, .int h0_1, .ref h0_2, .ref h0_3, .ref h0_4, .ref h0_5, .ref h0_6, .ref h0_7, .ref h0_8, .ref h0_9, .ref h0_10, .ref h0_11, .ref h0_12])), (h0_4, .inl (yh0_4, 60, .inl fh0_4)), (h0_7, .inl (yh0_7, 720, .inl fh0_7)), (h0_8, .inl (yh0_8, 60, .inl fh0_8)), (h0_10, .inl (yh0_10, 60, .inr (.inl fh0_10)))] := hD
    obtain ⟨by11, hqy12⟩ : IV 0 1 ry10 ∧ (¬ ry10 = 0 → IV 0 59 p2) := hw
    refine lv_if_eq (tgt := 27) hx hb dX0_addPart_13 (by decide) (fun cy13 => ?_) (fun cy13 => ?_)
    · have h_cy13 := cy13
      have by14 : IV 0 0 ry10 := IV_eq_l cy13 by11 (IV_mk (a := 0) (b := 0) (by decide) (by decide)) (by decide) (by decide)
      exact W.vret hx hb hr (fun t ht hW => ⟨⟨(), rfl, trivial, fh0_7, fh0_8, fh0_10, hy_fh0_7, hy_fh0_8, by rw [ht]; exact hP, va_K.moved hW.alike hK, hD⟩, hS.F ht⟩) hS.2.2 dX0_addPart_27
    · have h_cy13 := cy13
      have by15 : IV 0 59 p2 := hqy12 cy13
      have by16 : IV 1 1 ry10 := IV_ne_lo cy13 by11 (IV_mk (a := 0) (b := 0) (by decide) (by decide)) (by decide) (by decide) (by decide)
      refine lv_aload_n hx hb dX0_addPart_16 rfl (lv_at hl 0 rfl) ?_
      refine va_get (D := (dC, dI)) (ci := 0) (v := .ref h0_8) (C := RX0) (T := TX0) (N := 13) hx hb hts inX0_ hown hK hP 0 rfl rfl 8 (by decide) (hts (.fieldLink RX0 31 "GateWheel$Circuit" "partCounts" "[I") (List.mem_of_getElem? (i := 1) rfl)) (fun _ h9 => h9) rfl dX0_addPart_17 ?_
      refine lv_iload_n hx hb dX0_addPart_20 rfl (lv_at hl 1 rfl) ?_
      refine va_iald hx hb hK hP 3 2 rfl rfl (IV_in by7 (by decide) (by decide)) dX0_addPart_21 ?_
      refine lv_topi (fun zy17 ezy17 => ?_)
      have by18 : IV 0 12 zy17 := AR_get hy_fh0_8 ezy17
      refine lv_bipush (v := 12) hx hb dX0_addPart_22 (by decide) ?_
      refine lv_icmp_lt (tgt := 28) hx hb dX0_addPart_24 (by decide) (fun cy19 => ?_) (fun cy19 => ?_)
      · have h_cy19 := cy19
        have by20 : IV 0 11 zy17 := IV_lt_l cy19 by18 (IV_mk (a := 12) (b := 12) (by decide) (by decide)) (by decide) (by decide)
        refine lv_aload_n hx hb dX0_addPart_28 rfl (lv_at hl 0 rfl) ?_
        refine va_get (D := (dC, dI)) (ci := 0) (v := .ref h0_7) (C := RX0) (T := TX0) (N := 13) hx hb hts inX0_ hown hK hP 0 rfl rfl 7 (by decide) (hts (.fieldLink RX0 28 "GateWheel$Circuit" "parts" "[I") (List.mem_of_getElem? (i := 2) rfl)) (fun _ h9 => h9) rfl dX0_addPart_29 ?_
        refine lv_iload_n hx hb dX0_addPart_32 rfl (lv_at hl 1 rfl) ?_
        refine lv_bipush (v := 12) hx hb dX0_addPart_33 (by decide) ?_
        refine lv_imul hx hb dX0_addPart_35 ?_
        refine lv_topi (fun zy21 ezy21 => ?_)
        have by22 : IV 0 708 zy21 := IV_mul ezy21 by7 (IV_mk (a := 12) (b := 12) (by decide) (by decide)) (by decide) (by decide) (by decide) (by decide) (by decide)
        refine lv_aload_n hx hb dX0_addPart_36 rfl (lv_at hl 0 rfl) ?_
        refine va_get (D := (dC, dI)) (ci := 0) (v := .ref h0_8) (C := RX0) (T := TX0) (N := 13) hx hb hts inX0_ hown hK hP 0 rfl rfl 8 (by decide) (hts (.fieldLink RX0 31 "GateWheel$Circuit" "partCounts" "[I") (List.mem_of_getElem? (i := 1) rfl)) (fun _ h9 => h9) rfl dX0_addPart_37 ?_
        refine lv_iload_n hx hb dX0_addPart_40 rfl (lv_at hl 1 rfl) ?_
        refine va_iald hx hb hK hP 3 2 rfl rfl (IV_in by7 (by decide) (by decide)) dX0_addPart_41 ?_
        rw [← ezy17]
        refine lv_iadd hx hb dX0_addPart_42 ?_
        refine lv_topi (fun zy23 ezy23 => ?_)
        have by24 : IV 0 719 zy23 := IV_add ezy23 by22 by20 (by decide) (by decide) (by decide) (by decide)
        refine lv_iload_n hx hb dX0_addPart_43 rfl (lv_at hl 2 rfl) ?_
        refine va_iast hx hb hK hP hD hS 2 1 rfl rfl (IV_in by24 (by decide) (by decide)) dX0_addPart_44 (fun Hy25 locs hP hD hS => ?_)
        have hP : va_P (dC, dI) vwCl [(h0, .inr (0, [.int h0_0, .int h0_1, .ref h0_2, .ref h0_3, .ref h0_4, .ref h0_5, .ref h0_6, .ref h0_7, .ref h0_8, .ref h0_9, .ref h0_10, .ref h0_11, .ref h0_12])), (h0_4, .inl (yh0_4, 60, .inl fh0_4)), (h0_7, .inl (yh0_7, 720, .inl (upd fh0_7 (zy23 : Int32).toNatClampNeg p2))), (h0_8, .inl (yh0_8, 60, .inl fh0_8)), (h0_10, .inl (yh0_10, 60, .inr (.inl fh0_10)))] Hy25 := hP
        have hD : va_D A [(h0, .inr (0, [.int h0_0, .int h0_1, .ref h0_2, .ref h0_3, .ref h0_4, .ref h0_5, .ref h0_6, .ref h0_7, .ref h0_8, .ref h0_9, .ref h0_10, .ref h0_11, .ref h0_12])), (h0_4, .inl (yh0_4, 60, .inl fh0_4)), (h0_7, .inl (yh0_7, 720, .inl (upd fh0_7 (zy23 : Int32).toNatClampNeg p2))), (h0_8, .inl (yh0_8, 60, .inl fh0_8)), (h0_10, .inl (yh0_10, 60, .inr (.inl fh0_10)))] := hD
        have by27 : AR 0 59 (upd fh0_7 (zy23 : Int32).toNatClampNeg p2) := AR_upd hy_fh0_7 by15
        generalize (upd fh0_7 (zy23 : Int32).toNatClampNeg p2) = fy26 at hP hD by27
        refine lv_aload_n hx hb dX0_addPart_45 rfl (lv_at hl 0 rfl) ?_
        refine va_get (D := (dC, dI)) (ci := 0) (v := .ref h0_8) (C := RX0) (T := TX0) (N := 13) hx hb hts inX0_ hown hK hP 0 rfl rfl 8 (by decide) (hts (.fieldLink RX0 31 "GateWheel$Circuit" "partCounts" "[I") (List.mem_of_getElem? (i := 1) rfl)) (fun _ h9 => h9) rfl dX0_addPart_46 ?_
        refine lv_iload_n hx hb dX0_addPart_49 rfl (lv_at hl 1 rfl) ?_
        refine lv_dup2_11 hx hb dX0_addPart_50 rfl rfl ?_
        refine va_iald hx hb hK hP 3 2 rfl rfl (IV_in by7 (by decide) (by decide)) dX0_addPart_51 ?_
        rw [← ezy17]
        refine lv_iconst (v := 1) hx hb dX0_addPart_52 (by decide) ?_
        refine lv_iadd hx hb dX0_addPart_53 ?_
        refine lv_topi (fun zy28 ezy28 => ?_)
        have by29 : IV 1 12 zy28 := IV_add ezy28 by20 (IV_mk (a := 1) (b := 1) (by decide) (by decide)) (by decide) (by decide) (by decide) (by decide)
        refine va_iast hx hb hK hP hD hS 3 2 rfl rfl (IV_in by7 (by decide) (by decide)) dX0_addPart_54 (fun Hy30 locs hP hD hS => ?_)
        have hP : va_P (dC, dI) vwCl [(h0, .inr (0, [.int h0_0, .int h0_1, .ref h0_2, .ref h0_3, .ref h0_4, .ref h0_5, .ref h0_6, .ref h0_7, .ref h0_8, .ref h0_9, .ref h0_10, .ref h0_11, .ref h0_12])), (h0_4, .inl (yh0_4, 60, .inl fh0_4)), (h0_7, .inl (yh0_7, 720, .inl fy26)), (h0_8, .inl (yh0_8, 60, .inl (upd fh0_8 (p1 : Int32).toNatClampNeg zy28))), (h0_10, .inl (yh0_10, 60, .inr (.inl fh0_10)))] Hy30 := hP
        have hD : va_D A [(h0, .inr (0, [.int h0_0, .int h0_1, .ref h0_2, .ref h0_3, .ref h0_4, .ref h0_5, .ref h0_6, .ref h0_7, .ref h0_8, .ref h0_9, .ref h0_10, .ref h0_11, .ref h0_12])), (h0_4, .inl (yh0_4, 60, .inl fh0_4)), (h0_7, .inl (yh0_7, 720, .inl fy26)), (h0_8, .inl (yh0_8, 60, .inl (upd fh0_8 (p1 : Int32).toNatClampNeg zy28))), (h0_10, .inl (yh0_10, 60, .inr (.inl fh0_10)))] := hD
        have by32 : AR 0 12 (upd fh0_8 (p1 : Int32).toNatClampNeg zy28) := AR_upd hy_fh0_8 (IV_wk by29 (by decide) (by decide))
        generalize (upd fh0_8 (p1 : Int32).toNatClampNeg zy28) = fy31 at hP hD by32
        refine lv_aload_n hx hb dX0_addPart_55 rfl (lv_at hl 0 rfl) ?_
        refine va_get (D := (dC, dI)) (ci := 0) (v := .ref h0_4) (C := RX0) (T := TX0) (N := 13) hx hb hts inX0_ hown hK hP 0 rfl rfl 4 (by decide) (hts (.fieldLink RX0 19 "GateWheel$Circuit" "kinds" "[I") (List.mem_of_getElem? (i := 3) rfl)) (fun _ h9 => h9) rfl dX0_addPart_56 ?_
        refine lv_iload_n hx hb dX0_addPart_59 rfl (lv_at hl 1 rfl) ?_
        refine va_iald hx hb hK hP 1 0 rfl rfl (IV_in by7 (by decide) (by decide)) dX0_addPart_60 ?_
        refine lv_topi (fun zy33 ezy33 => ?_)
        refine lv_iconst (v := 3) hx hb dX0_addPart_61 (by decide) ?_
        refine lv_icmp_eq (tgt := 77) hx hb dX0_addPart_62 (by decide) (fun cy34 => ?_) (fun cy34 => ?_)
        · have h_cy34 := cy34
          have by35 : IV 3 3 zy33 := IV_eq_l cy34 (IV_top zy33) (IV_mk (a := 3) (b := 3) (by decide) (by decide)) (by decide) (by decide)
          exact W.vret hx hb hr (fun t ht hW => ⟨⟨(), rfl, trivial, fy26, fy31, fh0_10, by27, by32, by rw [ht]; exact hP, va_K.moved hW.alike hK, hD⟩, hS.F ht⟩) hS.2.2 dX0_addPart_77
        · have h_cy34 := cy34
          refine lv_aload_n hx hb dX0_addPart_65 rfl (lv_at hl 0 rfl) ?_
          refine va_get (D := (dC, dI)) (ci := 0) (v := .ref h0_10) (C := RX0) (T := TX0) (N := 13) hx hb hts inX0_ hown hK hP 0 rfl rfl 10 (by decide) (hts (.fieldLink RX0 37 "GateWheel$Circuit" "hangs" "[J") (List.mem_of_getElem? (i := 4) rfl)) (fun _ h9 => h9) rfl dX0_addPart_66 ?_
          refine lv_iload_n hx hb dX0_addPart_69 rfl (lv_at hl 1 rfl) ?_
          refine lv_dup2_11 hx hb dX0_addPart_70 rfl rfl ?_
          refine va_lald hx hb hK hP 4 3 rfl rfl (IV_in by7 (by decide) (by decide)) dX0_addPart_71 ?_
          refine lv_topl (fun zy36 ezy36 => ?_)
          refine lv_lconst (v := 1) hx hb dX0_addPart_72 (by decide) ?_
          refine lv_iload_n hx hb dX0_addPart_73 rfl (lv_at hl 2 rfl) ?_
          refine lv_lshl hx hb dX0_addPart_74 rfl ?_
          refine lv_topl (fun zy37 ezy37 => ?_)
          refine lv_lor hx hb dX0_addPart_75 ?_
          refine lv_topl (fun zy38 ezy38 => ?_)
          refine va_last hx hb hK hP hD hS 4 3 rfl rfl (IV_in by7 (by decide) (by decide)) dX0_addPart_76 (fun Hy39 locs hP hD hS => ?_)
          have hP : va_P (dC, dI) vwCl [(h0, .inr (0, [.int h0_0, .int h0_1, .ref h0_2, .ref h0_3, .ref h0_4, .ref h0_5, .ref h0_6, .ref h0_7, .ref h0_8, .ref h0_9, .ref h0_10, .ref h0_11, .ref h0_12])), (h0_4, .inl (yh0_4, 60, .inl fh0_4)), (h0_7, .inl (yh0_7, 720, .inl fy26)), (h0_8, .inl (yh0_8, 60, .inl fy31)), (h0_10, .inl (yh0_10, 60, .inr (.inl (vp_updL fh0_10 (p1 : Int32).toNatClampNeg zy38))))] Hy39 := hP
          have hD : va_D A [(h0, .inr (0, [.int h0_0, .int h0_1, .ref h0_2, .ref h0_3, .ref h0_4, .ref h0_5, .ref h0_6, .ref h0_7, .ref h0_8, .ref h0_9, .ref h0_10, .ref h0_11, .ref h0_12])), (h0_4, .inl (yh0_4, 60, .inl fh0_4)), (h0_7, .inl (yh0_7, 720, .inl fy26)), (h0_8, .inl (yh0_8, 60, .inl fy31)), (h0_10, .inl (yh0_10, 60, .inr (.inl (vp_updL fh0_10 (p1 : Int32).toNatClampNeg zy38))))] := hD
          generalize (vp_updL fh0_10 (p1 : Int32).toNatClampNeg zy38) = fy40 at hP hD
          exact W.vret hx hb hr (fun t ht hW => ⟨⟨(), rfl, trivial, fy26, fy31, fy40, by27, by32, by rw [ht]; exact hP, va_K.moved hW.alike hK, hD⟩, hS.F ht⟩) hS.2.2 dX0_addPart_77
      · have h_cy19 := cy19
        have by41 : IV 12 12 zy17 := IV_nlt_l cy19 by18 (IV_mk (a := 12) (b := 12) (by decide) (by decide)) (by decide) (by decide)
        exact W.vret hx hb hr (fun t ht hW => ⟨⟨(), rfl, trivial, fh0_7, fh0_8, fh0_10, hy_fh0_7, hy_fh0_8, by rw [ht]; exact hP, va_K.moved hW.alike hK, hD⟩, hS.F ht⟩) hS.2.2 dX0_addPart_27

set_option maxHeartbeats 4000000 in
set_option maxRecDepth 100000 in
theorem s_X0_size (l : Launch) (dC : Nat → ClassId) (dI : Nat → Nat → Nat) (h0 : Nat) (h0_4 : Nat) (h0_8 : Nat) (h0_0 : Int32) (h0_1 : Int32) (h0_2 : Nat) (h0_3 : Nat) (h0_5 : Nat) (h0_6 : Nat) (h0_7 : Nat) (h0_9 : Nat) (h0_10 : Nat) (h0_11 : Nat) (h0_12 : Nat) (yh0_4 : ClassId) (fh0_4 : Nat → Int32) (yh0_8 : ClassId) (fh0_8 : Nat → Int32) (p1 : Int32) (sz : Nat) (hy_h0_0 : IV 0 60 h0_0) (hy_p1 : IV 0 59 p1) (hy_fh0_8 : AR 0 12 fh0_8) : Met l yX0_size wsX0_size ({ frames := 0, cells := 0, slots := 0, locals := 0 }) (va_Pc [.ref h0, .int p1] (fun U => U.heap.size = sz ∧ va_P (dC, dI) vwCl [(h0, .inr (0, [.int h0_0, .int h0_1, .ref h0_2, .ref h0_3, .ref h0_4, .ref h0_5, .ref h0_6, .ref h0_7, .ref h0_8, .ref h0_9, .ref h0_10, .ref h0_11, .ref h0_12])), (h0_4, .inl (yh0_4, 60, .inl fh0_4)), (h0_8, .inl (yh0_8, 60, .inl fh0_8))] U.heap ∧ va_K (dC, dI) vwCl [(yh0_4, .int), (yh0_8, .int)] U ∧ va_D (fun _ => True) [(h0, .inr (0, [.int h0_0, .int h0_1, .ref h0_2, .ref h0_3, .ref h0_4, .ref h0_5, .ref h0_6, .ref h0_7, .ref h0_8, .ref h0_9, .ref h0_10, .ref h0_11, .ref h0_12])), (h0_4, .inl (yh0_4, 60, .inl fh0_4)), (h0_8, .inl (yh0_8, 60, .inl fh0_8))])) (va_Qi (fun (r : Int32) (_ : Unit) => IV 0 12 r) (fun (_ : Unit) (t : State) => va_P (dC, dI) vwCl [(h0, .inr (0, [.int h0_0, .int h0_1, .ref h0_2, .ref h0_3, .ref h0_4, .ref h0_5, .ref h0_6, .ref h0_7, .ref h0_8, .ref h0_9, .ref h0_10, .ref h0_11, .ref h0_12])), (h0_4, .inl (yh0_4, 60, .inl fh0_4)), (h0_8, .inl (yh0_8, 60, .inl fh0_8))] t.heap ∧ va_K (dC, dI) vwCl [(yh0_4, .int), (yh0_8, .int)] t ∧ va_D (va_A [(h0, .inr (0, [.int h0_0, .int h0_1, .ref h0_2, .ref h0_3, .ref h0_4, .ref h0_5, .ref h0_6, .ref h0_7, .ref h0_8, .ref h0_9, .ref h0_10, .ref h0_11, .ref h0_12])), (h0_4, .inl (yh0_4, 60, .inl fh0_4)), (h0_8, .inl (yh0_8, 60, .inl fh0_8))] sz) [(h0, .inr (0, [.int h0_0, .int h0_1, .ref h0_2, .ref h0_3, .ref h0_4, .ref h0_5, .ref h0_6, .ref h0_7, .ref h0_8, .ref h0_9, .ref h0_10, .ref h0_11, .ref h0_12])), (h0_4, .inl (yh0_4, 60, .inl fh0_4)), (h0_8, .inl (yh0_8, 60, .inl fh0_8))]) (va_A [(h0, .inr (0, [.int h0_0, .int h0_1, .ref h0_2, .ref h0_3, .ref h0_4, .ref h0_5, .ref h0_6, .ref h0_7, .ref h0_8, .ref h0_9, .ref h0_10, .ref h0_11, .ref h0_12])), (h0_4, .inl (yh0_4, 60, .inl fh0_4)), (h0_8, .inl (yh0_8, 60, .inl fh0_8))] sz)) 0 0 (va_A [(h0, .inr (0, [.int h0_0, .int h0_1, .ref h0_2, .ref h0_3, .ref h0_4, .ref h0_5, .ref h0_6, .ref h0_7, .ref h0_8, .ref h0_9, .ref h0_10, .ref h0_11, .ref h0_12])), (h0_4, .inl (yh0_4, 60, .inl fh0_4)), (h0_8, .inl (yh0_8, 60, .inl fh0_8))] sz) := by
  refine Met.ofW (cc := cX0_size) (maxL := 2) (ret := (some .int)) (by decide +kernel) rfl ?_
  intro p e s m args below meth c s₁ B hml hv
  obtain ⟨rfl, hsz, hP, hK, hD0⟩ := hv
  have hx := B.exec
  have hb := B.bytes
  have hr := B.returns
  have hts := atoms_spec (ws := wsX0_size) B.pre
  have hown : s.vm.findClass RX0 = some m.cls := findClass_of_methodNamed B.named
  have hlocks := B.notSynchronized
  have inX0_ : ∀ w ∈ wsX00, w ∈ wsX0_size := fun _ h => List.mem_cons_of_mem _ (List.mem_append_right _ h)
  subst hsz
  have hD := hD0.self (sz := s.heap.size)
  generalize hAe : va_A [(h0, .inr (0, [.int h0_0, .int h0_1, .ref h0_2, .ref h0_3, .ref h0_4, .ref h0_5, .ref h0_6, .ref h0_7, .ref h0_8, .ref h0_9, .ref h0_10, .ref h0_11, .ref h0_12])), (h0_4, .inl (yh0_4, 60, .inl fh0_4)), (h0_8, .inl (yh0_8, 60, .inl fh0_8))] s.heap.size = A at hD ⊢
  have hA : ∀ q : Nat, s.heap.size ≤ q → A q := fun q h => by rw [← hAe]; exact Or.inr h
  have hS : va_S A s.heap s.heap [] := va_S.rf
  have hP : va_P (dC, dI) vwCl [(h0, .inr (0, [.int h0_0, .int h0_1, .ref h0_2, .ref h0_3, .ref h0_4, .ref h0_5, .ref h0_6, .ref h0_7, .ref h0_8, .ref h0_9, .ref h0_10, .ref h0_11, .ref h0_12])), (h0_4, .inl (yh0_4, 60, .inl fh0_4)), (h0_8, .inl (yh0_8, 60, .inl fh0_8))] s.heap := hP
  have hl := lv_entry ([.ref h0, .int p1]) (n := 2) (Nat.le_of_ble_eq_true rfl)
  rw [lg_entry_eq]
  generalize (lg_sl ([.ref h0, .int p1]) ++ List.replicate (2 - (lg_sl ([.ref h0, .int p1])).length) Slot.unset).toArray = ls at hl ⊢
  have hl : lv_has ls 2 [(0, .ref h0), (1, .int p1)] := hl
  refine lv_aload_n hx hb dX0_size_0 rfl (lv_at hl 0 rfl) ?_
  refine va_get (D := (dC, dI)) (ci := 0) (v := .ref h0_4) (C := RX0) (T := TX0) (N := 13) hx hb hts inX0_ hown hK hP 0 rfl rfl 4 (by decide) (hts (.fieldLink RX0 19 "GateWheel$Circuit" "kinds" "[I") (List.mem_of_getElem? (i := 1) rfl)) (fun _ h9 => h9) rfl dX0_size_1 ?_
  refine lv_iload_n hx hb dX0_size_4 rfl (lv_at hl 1 rfl) ?_
  refine va_iald hx hb hK hP 1 0 rfl rfl (IV_in hy_p1 (by decide) (by decide)) dX0_size_5 ?_
  refine lv_topi (fun zy1 ezy1 => ?_)
  refine lv_iconst (v := 1) hx hb dX0_size_6 (by decide) ?_
  refine lv_icmp_ne (tgt := 21) hx hb dX0_size_7 (by decide) (fun cy2 => ?_) (fun cy2 => ?_)
  · have h_cy2 := cy2
    refine lv_aload_n hx hb dX0_size_21 rfl (lv_at hl 0 rfl) ?_
    refine va_get (D := (dC, dI)) (ci := 0) (v := .ref h0_8) (C := RX0) (T := TX0) (N := 13) hx hb hts inX0_ hown hK hP 0 rfl rfl 8 (by decide) (hts (.fieldLink RX0 31 "GateWheel$Circuit" "partCounts" "[I") (List.mem_of_getElem? (i := 2) rfl)) (fun _ h9 => h9) rfl dX0_size_22 ?_
    refine lv_iload_n hx hb dX0_size_25 rfl (lv_at hl 1 rfl) ?_
    refine va_iald hx hb hK hP 2 1 rfl rfl (IV_in hy_p1 (by decide) (by decide)) dX0_size_26 ?_
    refine lv_topi (fun zy3 ezy3 => ?_)
    have by4 : IV 0 12 zy3 := AR_get hy_fh0_8 ezy3
    exact W.iret (v := zy3) hx hb hr (fun t ht hW => ⟨⟨zy3, (), rfl, by4, by rw [ht]; exact hP, va_K.moved hW.alike hK, hD⟩, hS.F ht⟩) hS.2.2 dX0_size_27
  · have h_cy2 := cy2
    have by5 : IV 1 1 zy1 := IV_eq_l cy2 (IV_top zy1) (IV_mk (a := 1) (b := 1) (by decide) (by decide)) (by decide) (by decide)
    refine lv_aload_n hx hb dX0_size_10 rfl (lv_at hl 0 rfl) ?_
    refine va_get (D := (dC, dI)) (ci := 0) (v := .ref h0_8) (C := RX0) (T := TX0) (N := 13) hx hb hts inX0_ hown hK hP 0 rfl rfl 8 (by decide) (hts (.fieldLink RX0 31 "GateWheel$Circuit" "partCounts" "[I") (List.mem_of_getElem? (i := 2) rfl)) (fun _ h9 => h9) rfl dX0_size_11 ?_
    refine lv_iload_n hx hb dX0_size_14 rfl (lv_at hl 1 rfl) ?_
    refine va_iald hx hb hK hP 2 1 rfl rfl (IV_in hy_p1 (by decide) (by decide)) dX0_size_15 ?_
    refine lv_topi (fun zy6 ezy6 => ?_)
    have by7 : IV 0 12 zy6 := AR_get hy_fh0_8 ezy6
    refine lv_iconst (v := 2) hx hb dX0_size_16 (by decide) ?_
    refine lv_idiv hx hb dX0_size_17 (by decide) ?_
    refine lv_topi (fun zy8 ezy8 => ?_)
    have by9 : IV 0 6 zy8 := IV_div2 ezy8 by7 (by decide) (by decide) (by decide)
    refine lv_goto (tgt := 27) hx hb dX0_size_18 (by decide) ?_
    exact W.iret (v := zy8) hx hb hr (fun t ht hW => ⟨⟨zy8, (), rfl, (IV_wk by9 (by decide) (by decide)), by rw [ht]; exact hP, va_K.moved hW.alike hK, hD⟩, hS.F ht⟩) hS.2.2 dX0_size_27

set_option maxHeartbeats 4000000 in
set_option maxRecDepth 100000 in
theorem s_X0_beginDriver (l : Launch) (dC : Nat → ClassId) (dI : Nat → Nat → Nat) (h0 : Nat) (h0_4 : Nat) (h0_8 : Nat) (h0_9 : Nat) (h0_0 : Int32) (h0_1 : Int32) (h0_2 : Nat) (h0_3 : Nat) (h0_5 : Nat) (h0_6 : Nat) (h0_7 : Nat) (h0_10 : Nat) (h0_11 : Nat) (h0_12 : Nat) (yh0_4 : ClassId) (fh0_4 : Nat → Int32) (yh0_8 : ClassId) (fh0_8 : Nat → Int32) (yh0_9 : ClassId) (fh0_9 : Nat → Int32) (p1 : Int32) (p2 : Int32) (sz : Nat) (hy_h0_0 : IV 0 60 h0_0) (hy_fh0_8 : AR 0 12 fh0_8) : Met l yX0_beginDriver wsX0_beginDriver ({ frames := 1, cells := 0, slots := 0, locals := 21 }) (va_Pc [.ref h0, .int p1, .int p2] (fun U => U.heap.size = sz ∧ va_P (dC, dI) vwCl [(h0, .inr (0, [.int h0_0, .int h0_1, .ref h0_2, .ref h0_3, .ref h0_4, .ref h0_5, .ref h0_6, .ref h0_7, .ref h0_8, .ref h0_9, .ref h0_10, .ref h0_11, .ref h0_12])), (h0_4, .inl (yh0_4, 60, .inl fh0_4)), (h0_8, .inl (yh0_8, 60, .inl fh0_8)), (h0_9, .inl (yh0_9, 60, .inl fh0_9))] U.heap ∧ va_K (dC, dI) vwCl [(yh0_4, .int), (yh0_8, .int), (yh0_9, .int)] U ∧ va_D (fun _ => True) [(h0, .inr (0, [.int h0_0, .int h0_1, .ref h0_2, .ref h0_3, .ref h0_4, .ref h0_5, .ref h0_6, .ref h0_7, .ref h0_8, .ref h0_9, .ref h0_10, .ref h0_11, .ref h0_12])), (h0_4, .inl (yh0_4, 60, .inl fh0_4)), (h0_8, .inl (yh0_8, 60, .inl fh0_8)), (h0_9, .inl (yh0_9, 60, .inl fh0_9))])) (va_Qv (fun (_ : Unit) => True) (fun (_ : Unit) (t : State) => ∃ (fy20 : Nat → Int32), va_P (dC, dI) vwCl [(h0, .inr (0, [.int h0_0, .int h0_1, .ref h0_2, .ref h0_3, .ref h0_4, .ref h0_5, .ref h0_6, .ref h0_7, .ref h0_8, .ref h0_9, .ref h0_10, .ref h0_11, .ref h0_12])), (h0_4, .inl (yh0_4, 60, .inl fh0_4)), (h0_8, .inl (yh0_8, 60, .inl fh0_8)), (h0_9, .inl (yh0_9, 60, .inl fy20))] t.heap ∧ va_K (dC, dI) vwCl [(yh0_4, .int), (yh0_8, .int), (yh0_9, .int)] t ∧ va_D (va_A [(h0, .inr (0, [.int h0_0, .int h0_1, .ref h0_2, .ref h0_3, .ref h0_4, .ref h0_5, .ref h0_6, .ref h0_7, .ref h0_8, .ref h0_9, .ref h0_10, .ref h0_11, .ref h0_12])), (h0_4, .inl (yh0_4, 60, .inl fh0_4)), (h0_8, .inl (yh0_8, 60, .inl fh0_8)), (h0_9, .inl (yh0_9, 60, .inl fh0_9))] sz) [(h0, .inr (0, [.int h0_0, .int h0_1, .ref h0_2, .ref h0_3, .ref h0_4, .ref h0_5, .ref h0_6, .ref h0_7, .ref h0_8, .ref h0_9, .ref h0_10, .ref h0_11, .ref h0_12])), (h0_4, .inl (yh0_4, 60, .inl fh0_4)), (h0_8, .inl (yh0_8, 60, .inl fh0_8)), (h0_9, .inl (yh0_9, 60, .inl fy20))]) (va_A [(h0, .inr (0, [.int h0_0, .int h0_1, .ref h0_2, .ref h0_3, .ref h0_4, .ref h0_5, .ref h0_6, .ref h0_7, .ref h0_8, .ref h0_9, .ref h0_10, .ref h0_11, .ref h0_12])), (h0_4, .inl (yh0_4, 60, .inl fh0_4)), (h0_8, .inl (yh0_8, 60, .inl fh0_8)), (h0_9, .inl (yh0_9, 60, .inl fh0_9))] sz)) 0 0 (va_A [(h0, .inr (0, [.int h0_0, .int h0_1, .ref h0_2, .ref h0_3, .ref h0_4, .ref h0_5, .ref h0_6, .ref h0_7, .ref h0_8, .ref h0_9, .ref h0_10, .ref h0_11, .ref h0_12])), (h0_4, .inl (yh0_4, 60, .inl fh0_4)), (h0_8, .inl (yh0_8, 60, .inl fh0_8)), (h0_9, .inl (yh0_9, 60, .inl fh0_9))] sz) := by
  refine Met.ofW (cc := cX0_beginDriver) (maxL := 3) (ret := none) (by decide +kernel) rfl ?_
  intro p e s m args below meth c s₁ B hml hv
  obtain ⟨rfl, hsz, hP, hK, hD0⟩ := hv
  have hx := B.exec
  have hb := B.bytes
  have hr := B.returns
  have hts := atoms_spec (ws := wsX0_beginDriver) B.pre
  have hown : s.vm.findClass RX0 = some m.cls := findClass_of_methodNamed B.named
  have hlocks := B.notSynchronized
  have inX0_ : ∀ w ∈ wsX00, w ∈ wsX0_beginDriver := fun _ h => List.mem_cons_of_mem _ (List.mem_append_right _ h)
  subst hsz
  have hD := hD0.self (sz := s.heap.size)
  generalize hAe : va_A [(h0, .inr (0, [.int h0_0, .int h0_1, .ref h0_2, .ref h0_3, .ref h0_4, .ref h0_5, .ref h0_6, .ref h0_7, .ref h0_8, .ref h0_9, .ref h0_10, .ref h0_11, .ref h0_12])), (h0_4, .inl (yh0_4, 60, .inl fh0_4)), (h0_8, .inl (yh0_8, 60, .inl fh0_8)), (h0_9, .inl (yh0_9, 60, .inl fh0_9))] s.heap.size = A at hD ⊢
  have hA : ∀ q : Nat, s.heap.size ≤ q → A q := fun q h => by rw [← hAe]; exact Or.inr h
  have hS : va_S A s.heap s.heap [] := va_S.rf
  have hP : va_P (dC, dI) vwCl [(h0, .inr (0, [.int h0_0, .int h0_1, .ref h0_2, .ref h0_3, .ref h0_4, .ref h0_5, .ref h0_6, .ref h0_7, .ref h0_8, .ref h0_9, .ref h0_10, .ref h0_11, .ref h0_12])), (h0_4, .inl (yh0_4, 60, .inl fh0_4)), (h0_8, .inl (yh0_8, 60, .inl fh0_8)), (h0_9, .inl (yh0_9, 60, .inl fh0_9))] s.heap := hP
  have hl := lv_entry ([.ref h0, .int p1, .int p2]) (n := 3) (Nat.le_of_ble_eq_true rfl)
  rw [lg_entry_eq]
  generalize (lg_sl ([.ref h0, .int p1, .int p2]) ++ List.replicate (3 - (lg_sl ([.ref h0, .int p1, .int p2])).length) Slot.unset).toArray = ls at hl ⊢
  have hl : lv_has ls 3 [(0, .ref h0), (1, .int p1), (2, .int p2)] := hl
  refine lv_aload_n hx hb dX0_beginDriver_0 rfl (lv_at hl 0 rfl) ?_
  refine lv_iload_n hx hb dX0_beginDriver_1 rfl (lv_at hl 1 rfl) ?_
  have hPc := hP.sub (ws' := [(h0, .inr (0, [.int h0_0, .int h0_1, .ref h0_2, .ref h0_3, .ref h0_4, .ref h0_5, .ref h0_6, .ref h0_7, .ref h0_8, .ref h0_9, .ref h0_10, .ref h0_11, .ref h0_12]))]) [0] rfl
  have hDc := hD.sub (ws' := [(h0, .inr (0, [.int h0_0, .int h0_1, .ref h0_2, .ref h0_3, .ref h0_4, .ref h0_5, .ref h0_6, .ref h0_7, .ref h0_8, .ref h0_9, .ref h0_10, .ref h0_11, .ref h0_12]))]) [0] (by decide) rfl
  have hKc := hK.sub (tys' := []) [] rfl
  have hFc := va_free (wc := [(h0, .inr (0, [.int h0_0, .int h0_1, .ref h0_2, .ref h0_3, .ref h0_4, .ref h0_5, .ref h0_6, .ref h0_7, .ref h0_8, .ref h0_9, .ref h0_10, .ref h0_11, .ref h0_12]))]) hD hS hA [0] rfl
  refine va_calli (va_runV (As := [.int p1]) (rest := []) ⟨hx, hb, hml, hown, hts⟩ (s_X0_has l dC dI h0 h0_0 h0_1 h0_2 h0_3 h0_4 h0_5 h0_6 h0_7 h0_8 h0_9 h0_10 h0_11 h0_12 p1 s.heap.size hy_h0_0) (cwV 1 hts gX0_beginDriver_X0_has rfl rfl rfl (by decide +kernel) ⟨Nat.le_of_ble_eq_true rfl, Nat.le_of_ble_eq_true rfl⟩) ⟨fun a U g mk q => by obtain ⟨q0, q1, qP, qK, qD⟩ := q; exact ⟨q0, q1, qP, va_K.moved (u := U) (U := U.calling g mk a) (Vm.Alike.refl U.vm) qK, qD⟩, va_recv hKc hPc (ci := 0) (q0 := 0) rfl rfl, fun U hU hW => ⟨rfl, by rw [hU], by rw [hU]; exact hPc, va_K.moved hW.alike hKc, hDc.weaken (fun _ _ _ _ => trivial)⟩⟩ rfl rfl hl.1 rfl (lv_room (Nat.le_of_ble_eq_true rfl)) dX0_beginDriver_2 ⟨Nat.le_of_ble_eq_true rfl, Nat.le_of_ble_eq_true rfl⟩) hS (fun q _ h => hFc q h) hFc (fun ry2 u t Hy1 locs ht hvm hw hB hz1 hk1 hS => ?_)
  obtain ⟨hP1, hK1, hD1⟩ := hB
  rw [ht] at hP1
  obtain ⟨hP, hD⟩ := va_join (wr := [(h0_4, .inl (yh0_4, 60, .inl fh0_4)), (h0_8, .inl (yh0_8, 60, .inl fh0_8)), (h0_9, .inl (yh0_9, 60, .inl fh0_9))]) (w1 := [(h0, .inr (0, [.int h0_0, .int h0_1, .ref h0_2, .ref h0_3, .ref h0_4, .ref h0_5, .ref h0_6, .ref h0_7, .ref h0_8, .ref h0_9, .ref h0_10, .ref h0_11, .ref h0_12]))]) hP hD [0] [1, 2, 3] rfl rfl (by decide) (by decide) hk1 hFc hP1 hD1
  have hP := hP.sub (ws' := [(h0, .inr (0, [.int h0_0, .int h0_1, .ref h0_2, .ref h0_3, .ref h0_4, .ref h0_5, .ref h0_6, .ref h0_7, .ref h0_8, .ref h0_9, .ref h0_10, .ref h0_11, .ref h0_12])), (h0_4, .inl (yh0_4, 60, .inl fh0_4)), (h0_8, .inl (yh0_8, 60, .inl fh0_8)), (h0_9, .inl (yh0_9, 60, .inl fh0_9))]) [3, 0, 1, 2] rfl
  have hD := hD.sub (ws' := [(h0, .inr (0, [.int h0_0, .int h0_1, .ref h0_2, .ref h0_3, .ref h0_4, .ref h0_5, .ref h0_6, .ref h0_7, .ref h0_8, .ref h0_9, .ref h0_10, .ref h0_11, .ref h0_12])), (h0_4, .inl (yh0_4, 60, .inl fh0_4)), (h0_8, .inl (yh0_8, 60, .inl fh0_8)), (h0_9, .inl (yh0_9, 60, .inl fh0_9))]) [3, 0, 1, 2] (by decide) rfl
  have hP : va_P (dC, dI) vwCl [(h0, .inr (0, [.int h0_0, .int h0_1, .ref h0_2, .ref h0_3, .ref h0_4, .ref h0_5, .ref h0_6, .ref h0_7, .ref h0_8, .ref h0_9, .ref h0_10, .ref h0_11, .ref h0_12])), (h0_4, .inl (yh0_4, 60, .inl fh0_4)), (h0_8, .inl (yh0_8, 60, .inl fh0_8)), (h0_9, .inl (yh0_9, 60, .inl fh0_9))] Hy1 := hP
  have hD : va_D A [(h0, .inr (0, [.int h0_0, .int h0_1, .ref h0_2, .ref h0_3, .ref h0_4, .ref h0_5, .ref h0_6, .ref h0_7, .ref h0_8, .ref h0_9, .ref h0_10, .ref h0_11, .ref h0_12])), (h0_4, .inl (yh0_4, 60, .inl fh0_4)), (h0_8, .inl (yh0_8, 60, .inl fh0_8)), (h0_9, .inl (yh0_9, 60, .inl fh0_9))] := hD
  obtain ⟨by3, hqy4⟩ : IV 0 1 ry2 ∧ (¬ ry2 = 0 → IV 0 59 p1) := hw
  refine lv_if_eq (tgt := 28) hx hb dX0_beginDriver_5 (by decide) (fun cy5 => ?_) (fun cy5 => ?_)
  · have h_cy5 := cy5
    have by6 : IV 0 0 ry2 := IV_eq_l cy5 by3 (IV_mk (a := 0) (b := 0) (by decide) (by decide)) (by decide) (by decide)
    exact W.vret hx hb hr (fun t ht hW => ⟨⟨(), rfl, trivial, fh0_9, by rw [ht]; exact hP, va_K.moved hW.alike hK, hD⟩, hS.F ht⟩) hS.2.2 dX0_beginDriver_28
  · have h_cy5 := cy5
    have by7 : IV 0 59 p1 := hqy4 cy5
    have by8 : IV 1 1 ry2 := IV_ne_lo cy5 by3 (IV_mk (a := 0) (b := 0) (by decide) (by decide)) (by decide) (by decide) (by decide)
    refine lv_iload_n hx hb dX0_beginDriver_8 rfl (lv_at hl 2 rfl) ?_
    refine lv_if_eq (tgt := 28) hx hb dX0_beginDriver_9 (by decide) (fun cy9 => ?_) (fun cy9 => ?_)
    · have h_cy9 := cy9
      have by10 : IV 0 0 p2 := IV_eq_l cy9 (IV_top p2) (IV_mk (a := 0) (b := 0) (by decide) (by decide)) (by decide) (by decide)
      exact W.vret hx hb hr (fun t ht hW => ⟨⟨(), rfl, trivial, fh0_9, by rw [ht]; exact hP, va_K.moved hW.alike hK, hD⟩, hS.F ht⟩) hS.2.2 dX0_beginDriver_28
    · have h_cy9 := cy9
      refine lv_aload_n hx hb dX0_beginDriver_12 rfl (lv_at hl 0 rfl) ?_
      refine va_get (D := (dC, dI)) (ci := 0) (v := .ref h0_9) (C := RX0) (T := TX0) (N := 13) hx hb hts inX0_ hown hK hP 0 rfl rfl 9 (by decide) (hts (.fieldLink RX0 34 "GateWheel$Circuit" "lows" "[I") (List.mem_of_getElem? (i := 1) rfl)) (fun _ h9 => h9) rfl dX0_beginDriver_13 ?_
      refine lv_iload_n hx hb dX0_beginDriver_16 rfl (lv_at hl 1 rfl) ?_
      refine lv_dup2_11 hx hb dX0_beginDriver_17 rfl rfl ?_
      refine va_iald hx hb hK hP 3 2 rfl rfl (IV_in by7 (by decide) (by decide)) dX0_beginDriver_18 ?_
      refine lv_topi (fun zy11 ezy11 => ?_)
      refine lv_iconst (v := 1) hx hb dX0_beginDriver_19 (by decide) ?_
      refine lv_aload_n hx hb dX0_beginDriver_20 rfl (lv_at hl 0 rfl) ?_
      refine lv_iload_n hx hb dX0_beginDriver_21 rfl (lv_at hl 1 rfl) ?_
      have hPc := hP.sub (ws' := [(h0, .inr (0, [.int h0_0, .int h0_1, .ref h0_2, .ref h0_3, .ref h0_4, .ref h0_5, .ref h0_6, .ref h0_7, .ref h0_8, .ref h0_9, .ref h0_10, .ref h0_11, .ref h0_12])), (h0_4, .inl (yh0_4, 60, .inl fh0_4)), (h0_8, .inl (yh0_8, 60, .inl fh0_8))]) [0, 1, 2] rfl
      have hDc := hD.sub (ws' := [(h0, .inr (0, [.int h0_0, .int h0_1, .ref h0_2, .ref h0_3, .ref h0_4, .ref h0_5, .ref h0_6, .ref h0_7, .ref h0_8, .ref h0_9, .ref h0_10, .ref h0_11, .ref h0_12])), (h0_4, .inl (yh0_4, 60, .inl fh0_4)), (h0_8, .inl (yh0_8, 60, .inl fh0_8))]) [0, 1, 2] (by decide) rfl
      have hKc := hK.sub (tys' := [(yh0_4, .int), (yh0_8, .int)]) [0, 1] rfl
      have hFc := va_free (wc := [(h0, .inr (0, [.int h0_0, .int h0_1, .ref h0_2, .ref h0_3, .ref h0_4, .ref h0_5, .ref h0_6, .ref h0_7, .ref h0_8, .ref h0_9, .ref h0_10, .ref h0_11, .ref h0_12])), (h0_4, .inl (yh0_4, 60, .inl fh0_4)), (h0_8, .inl (yh0_8, 60, .inl fh0_8))]) hD hS hA [0, 1, 2] rfl
      refine va_calli (va_runV (As := [.int p1]) (rest := [.int 1, .int zy11, .int p1, .ref h0_9]) ⟨hx, hb, hml, hown, hts⟩ (s_X0_size l dC dI h0 h0_4 h0_8 h0_0 h0_1 h0_2 h0_3 h0_5 h0_6 h0_7 h0_9 h0_10 h0_11 h0_12 yh0_4 fh0_4 yh0_8 fh0_8 p1 Hy1.size hy_h0_0 by7 hy_fh0_8) (cwV 1 hts gX0_beginDriver_X0_size rfl rfl rfl (by decide +kernel) ⟨Nat.le_of_ble_eq_true rfl, Nat.le_of_ble_eq_true rfl⟩) ⟨fun a U g mk q => by obtain ⟨q0, q1, qP, qK, qD⟩ := q; exact ⟨q0, q1, qP, va_K.moved (u := U) (U := U.calling g mk a) (Vm.Alike.refl U.vm) qK, qD⟩, va_recv hKc hPc (ci := 0) (q0 := 0) rfl rfl, fun U hU hW => ⟨rfl, by rw [hU], by rw [hU]; exact hPc, va_K.moved hW.alike hKc, hDc.weaken (fun _ _ _ _ => trivial)⟩⟩ rfl rfl hl.1 rfl (lv_room (Nat.le_of_ble_eq_true rfl)) dX0_beginDriver_22 ⟨Nat.le_of_ble_eq_true rfl, Nat.le_of_ble_eq_true rfl⟩) hS (fun q _ h => hFc q h) hFc (fun ry13 u t Hy12 locs ht hvm hw hB hz1 hk1 hS => ?_)
      obtain ⟨hP1, hK1, hD1⟩ := hB
      rw [ht] at hP1
      obtain ⟨hP, hD⟩ := va_join (wr := [(h0_9, .inl (yh0_9, 60, .inl fh0_9))]) (w1 := [(h0, .inr (0, [.int h0_0, .int h0_1, .ref h0_2, .ref h0_3, .ref h0_4, .ref h0_5, .ref h0_6, .ref h0_7, .ref h0_8, .ref h0_9, .ref h0_10, .ref h0_11, .ref h0_12])), (h0_4, .inl (yh0_4, 60, .inl fh0_4)), (h0_8, .inl (yh0_8, 60, .inl fh0_8))]) hP hD [0, 1, 2] [3] rfl rfl (by decide) (by decide) hk1 hFc hP1 hD1
      have hP := hP.sub (ws' := [(h0, .inr (0, [.int h0_0, .int h0_1, .ref h0_2, .ref h0_3, .ref h0_4, .ref h0_5, .ref h0_6, .ref h0_7, .ref h0_8, .ref h0_9, .ref h0_10, .ref h0_11, .ref h0_12])), (h0_4, .inl (yh0_4, 60, .inl fh0_4)), (h0_8, .inl (yh0_8, 60, .inl fh0_8)), (h0_9, .inl (yh0_9, 60, .inl fh0_9))]) [1, 2, 3, 0] rfl
      have hD := hD.sub (ws' := [(h0, .inr (0, [.int h0_0, .int h0_1, .ref h0_2, .ref h0_3, .ref h0_4, .ref h0_5, .ref h0_6, .ref h0_7, .ref h0_8, .ref h0_9, .ref h0_10, .ref h0_11, .ref h0_12])), (h0_4, .inl (yh0_4, 60, .inl fh0_4)), (h0_8, .inl (yh0_8, 60, .inl fh0_8)), (h0_9, .inl (yh0_9, 60, .inl fh0_9))]) [1, 2, 3, 0] (by decide) rfl
      have hP : va_P (dC, dI) vwCl [(h0, .inr (0, [.int h0_0, .int h0_1, .ref h0_2, .ref h0_3, .ref h0_4, .ref h0_5, .ref h0_6, .ref h0_7, .ref h0_8, .ref h0_9, .ref h0_10, .ref h0_11, .ref h0_12])), (h0_4, .inl (yh0_4, 60, .inl fh0_4)), (h0_8, .inl (yh0_8, 60, .inl fh0_8)), (h0_9, .inl (yh0_9, 60, .inl fh0_9))] Hy12 := hP
      have hD : va_D A [(h0, .inr (0, [.int h0_0, .int h0_1, .ref h0_2, .ref h0_3, .ref h0_4, .ref h0_5, .ref h0_6, .ref h0_7, .ref h0_8, .ref h0_9, .ref h0_10, .ref h0_11, .ref h0_12])), (h0_4, .inl (yh0_4, 60, .inl fh0_4)), (h0_8, .inl (yh0_8, 60, .inl fh0_8)), (h0_9, .inl (yh0_9, 60, .inl fh0_9))] := hD
      have by14 : IV 0 12 ry13 := hw
      refine lv_ishl hx hb dX0_beginDriver_25 ?_
      refine lv_topi (fun zy15 ezy15 => ?_)
      have by16 : IV 1 4096 zy15 := IV_shl ezy15 by14 (by decide) (by decide) (by decide) (by decide)
      refine lv_ior hx hb dX0_beginDriver_26 ?_
      refine lv_topi (fun zy17 ezy17 => ?_)
      refine va_iast hx hb hK hP hD hS 3 2 rfl rfl (IV_in by7 (by decide) (by decide)) dX0_beginDriver_27 (fun Hy18 locs hP hD hS => ?_)
      have hP : va_P (dC, dI) vwCl [(h0, .inr (0, [.int h0_0, .int h0_1, .ref h0_2, .ref h0_3, .ref h0_4, .ref h0_5, .ref h0_6, .ref h0_7, .ref h0_8, .ref h0_9, .ref h0_10, .ref h0_11, .ref h0_12])), (h0_4, .inl (yh0_4, 60, .inl fh0_4)), (h0_8, .inl (yh0_8, 60, .inl fh0_8)), (h0_9, .inl (yh0_9, 60, .inl (upd fh0_9 (p1 : Int32).toNatClampNeg zy17)))] Hy18 := hP
      have hD : va_D A [(h0, .inr (0, [.int h0_0, .int h0_1, .ref h0_2, .ref h0_3, .ref h0_4, .ref h0_5, .ref h0_6, .ref h0_7, .ref h0_8, .ref h0_9, .ref h0_10, .ref h0_11, .ref h0_12])), (h0_4, .inl (yh0_4, 60, .inl fh0_4)), (h0_8, .inl (yh0_8, 60, .inl fh0_8)), (h0_9, .inl (yh0_9, 60, .inl (upd fh0_9 (p1 : Int32).toNatClampNeg zy17)))] := hD
      generalize (upd fh0_9 (p1 : Int32).toNatClampNeg zy17) = fy19 at hP hD
      exact W.vret hx hb hr (fun t ht hW => ⟨⟨(), rfl, trivial, fy19, by rw [ht]; exact hP, va_K.moved hW.alike hK, hD⟩, hS.F ht⟩) hS.2.2 dX0_beginDriver_28

set_option maxHeartbeats 4000000 in
set_option maxRecDepth 100000 in
theorem s_X0_part (l : Launch) (dC : Nat → ClassId) (dI : Nat → Nat → Nat) (h0 : Nat) (h0_7 : Nat) (h0_0 : Int32) (h0_1 : Int32) (h0_2 : Nat) (h0_3 : Nat) (h0_4 : Nat) (h0_5 : Nat) (h0_6 : Nat) (h0_8 : Nat) (h0_9 : Nat) (h0_10 : Nat) (h0_11 : Nat) (h0_12 : Nat) (yh0_7 : ClassId) (fh0_7 : Nat → Int32) (p1 : Int32) (p2 : Int32) (sz : Nat) (hy_h0_0 : IV 0 60 h0_0) (hy_p1 : IV 0 59 p1) (hy_p2 : IV 0 11 p2) (hy_fh0_7 : AR 0 59 fh0_7) : Met l yX0_part wsX0_part ({ frames := 0, cells := 0, slots := 0, locals := 0 }) (va_Pc [.ref h0, .int p1, .int p2] (fun U => U.heap.size = sz ∧ va_P (dC, dI) vwCl [(h0, .inr (0, [.int h0_0, .int h0_1, .ref h0_2, .ref h0_3, .ref h0_4, .ref h0_5, .ref h0_6, .ref h0_7, .ref h0_8, .ref h0_9, .ref h0_10, .ref h0_11, .ref h0_12])), (h0_7, .inl (yh0_7, 720, .inl fh0_7))] U.heap ∧ va_K (dC, dI) vwCl [(yh0_7, .int)] U ∧ va_D (fun _ => True) [(h0, .inr (0, [.int h0_0, .int h0_1, .ref h0_2, .ref h0_3, .ref h0_4, .ref h0_5, .ref h0_6, .ref h0_7, .ref h0_8, .ref h0_9, .ref h0_10, .ref h0_11, .ref h0_12])), (h0_7, .inl (yh0_7, 720, .inl fh0_7))])) (va_Qi (fun (r : Int32) (_ : Unit) => IV 0 59 r) (fun (_ : Unit) (t : State) => va_P (dC, dI) vwCl [(h0, .inr (0, [.int h0_0, .int h0_1, .ref h0_2, .ref h0_3, .ref h0_4, .ref h0_5, .ref h0_6, .ref h0_7, .ref h0_8, .ref h0_9, .ref h0_10, .ref h0_11, .ref h0_12])), (h0_7, .inl (yh0_7, 720, .inl fh0_7))] t.heap ∧ va_K (dC, dI) vwCl [(yh0_7, .int)] t ∧ va_D (va_A [(h0, .inr (0, [.int h0_0, .int h0_1, .ref h0_2, .ref h0_3, .ref h0_4, .ref h0_5, .ref h0_6, .ref h0_7, .ref h0_8, .ref h0_9, .ref h0_10, .ref h0_11, .ref h0_12])), (h0_7, .inl (yh0_7, 720, .inl fh0_7))] sz) [(h0, .inr (0, [.int h0_0, .int h0_1, .ref h0_2, .ref h0_3, .ref h0_4, .ref h0_5, .ref h0_6, .ref h0_7, .ref h0_8, .ref h0_9, .ref h0_10, .ref h0_11, .ref h0_12])), (h0_7, .inl (yh0_7, 720, .inl fh0_7))]) (va_A [(h0, .inr (0, [.int h0_0, .int h0_1, .ref h0_2, .ref h0_3, .ref h0_4, .ref h0_5, .ref h0_6, .ref h0_7, .ref h0_8, .ref h0_9, .ref h0_10, .ref h0_11, .ref h0_12])), (h0_7, .inl (yh0_7, 720, .inl fh0_7))] sz)) 0 0 (va_A [(h0, .inr (0, [.int h0_0, .int h0_1, .ref h0_2, .ref h0_3, .ref h0_4, .ref h0_5, .ref h0_6, .ref h0_7, .ref h0_8, .ref h0_9, .ref h0_10, .ref h0_11, .ref h0_12])), (h0_7, .inl (yh0_7, 720, .inl fh0_7))] sz) := by
  refine Met.ofW (cc := cX0_part) (maxL := 3) (ret := (some .int)) (by decide +kernel) rfl ?_
  intro p e s m args below meth c s₁ B hml hv
  obtain ⟨rfl, hsz, hP, hK, hD0⟩ := hv
  have hx := B.exec
  have hb := B.bytes
  have hr := B.returns
  have hts := atoms_spec (ws := wsX0_part) B.pre
  have hown : s.vm.findClass RX0 = some m.cls := findClass_of_methodNamed B.named
  have hlocks := B.notSynchronized
  have inX0_ : ∀ w ∈ wsX00, w ∈ wsX0_part := fun _ h => List.mem_cons_of_mem _ (List.mem_append_right _ h)
  subst hsz
  have hD := hD0.self (sz := s.heap.size)
  generalize hAe : va_A [(h0, .inr (0, [.int h0_0, .int h0_1, .ref h0_2, .ref h0_3, .ref h0_4, .ref h0_5, .ref h0_6, .ref h0_7, .ref h0_8, .ref h0_9, .ref h0_10, .ref h0_11, .ref h0_12])), (h0_7, .inl (yh0_7, 720, .inl fh0_7))] s.heap.size = A at hD ⊢
  have hA : ∀ q : Nat, s.heap.size ≤ q → A q := fun q h => by rw [← hAe]; exact Or.inr h
  have hS : va_S A s.heap s.heap [] := va_S.rf
  have hP : va_P (dC, dI) vwCl [(h0, .inr (0, [.int h0_0, .int h0_1, .ref h0_2, .ref h0_3, .ref h0_4, .ref h0_5, .ref h0_6, .ref h0_7, .ref h0_8, .ref h0_9, .ref h0_10, .ref h0_11, .ref h0_12])), (h0_7, .inl (yh0_7, 720, .inl fh0_7))] s.heap := hP
  have hl := lv_entry ([.ref h0, .int p1, .int p2]) (n := 3) (Nat.le_of_ble_eq_true rfl)
  rw [lg_entry_eq]
  generalize (lg_sl ([.ref h0, .int p1, .int p2]) ++ List.replicate (3 - (lg_sl ([.ref h0, .int p1, .int p2])).length) Slot.unset).toArray = ls at hl ⊢
  have hl : lv_has ls 3 [(0, .ref h0), (1, .int p1), (2, .int p2)] := hl
  refine lv_aload_n hx hb dX0_part_0 rfl (lv_at hl 0 rfl) ?_
  refine va_get (D := (dC, dI)) (ci := 0) (v := .ref h0_7) (C := RX0) (T := TX0) (N := 13) hx hb hts inX0_ hown hK hP 0 rfl rfl 7 (by decide) (hts (.fieldLink RX0 28 "GateWheel$Circuit" "parts" "[I") (List.mem_of_getElem? (i := 1) rfl)) (fun _ h9 => h9) rfl dX0_part_1 ?_
  refine lv_iload_n hx hb dX0_part_4 rfl (lv_at hl 1 rfl) ?_
  refine lv_bipush (v := 12) hx hb dX0_part_5 (by decide) ?_
  refine lv_imul hx hb dX0_part_7 ?_
  refine lv_topi (fun zy1 ezy1 => ?_)
  have by2 : IV 0 708 zy1 := IV_mul ezy1 hy_p1 (IV_mk (a := 12) (b := 12) (by decide) (by decide)) (by decide) (by decide) (by decide) (by decide) (by decide)
  refine lv_iload_n hx hb dX0_part_8 rfl (lv_at hl 2 rfl) ?_
  refine lv_iadd hx hb dX0_part_9 ?_
  refine lv_topi (fun zy3 ezy3 => ?_)
  have by4 : IV 0 719 zy3 := IV_add ezy3 by2 hy_p2 (by decide) (by decide) (by decide) (by decide)
  refine va_iald hx hb hK hP 1 0 rfl rfl (IV_in by4 (by decide) (by decide)) dX0_part_10 ?_
  refine lv_topi (fun zy5 ezy5 => ?_)
  have by6 : IV 0 59 zy5 := AR_get hy_fh0_7 ezy5
  exact W.iret (v := zy5) hx hb hr (fun t ht hW => ⟨⟨zy5, (), rfl, by6, by rw [ht]; exact hP, va_K.moved hW.alike hK, hD⟩, hS.F ht⟩) hS.2.2 dX0_part_11

set_option maxHeartbeats 4000000 in
set_option maxRecDepth 100000 in
theorem s_X0_isLow (l : Launch) (dC : Nat → ClassId) (dI : Nat → Nat → Nat) (h0 : Nat) (h0_9 : Nat) (h0_0 : Int32) (h0_1 : Int32) (h0_2 : Nat) (h0_3 : Nat) (h0_4 : Nat) (h0_5 : Nat) (h0_6 : Nat) (h0_7 : Nat) (h0_8 : Nat) (h0_10 : Nat) (h0_11 : Nat) (h0_12 : Nat) (yh0_9 : ClassId) (fh0_9 : Nat → Int32) (p1 : Int32) (p2 : Int32) (sz : Nat) (hy_h0_0 : IV 0 60 h0_0) (hy_p1 : IV 0 59 p1) : Met l yX0_isLow wsX0_isLow ({ frames := 0, cells := 0, slots := 0, locals := 0 }) (va_Pc [.ref h0, .int p1, .int p2] (fun U => U.heap.size = sz ∧ va_P (dC, dI) vwCl [(h0, .inr (0, [.int h0_0, .int h0_1, .ref h0_2, .ref h0_3, .ref h0_4, .ref h0_5, .ref h0_6, .ref h0_7, .ref h0_8, .ref h0_9, .ref h0_10, .ref h0_11, .ref h0_12])), (h0_9, .inl (yh0_9, 60, .inl fh0_9))] U.heap ∧ va_K (dC, dI) vwCl [(yh0_9, .int)] U ∧ va_D (fun _ => True) [(h0, .inr (0, [.int h0_0, .int h0_1, .ref h0_2, .ref h0_3, .ref h0_4, .ref h0_5, .ref h0_6, .ref h0_7, .ref h0_8, .ref h0_9, .ref h0_10, .ref h0_11, .ref h0_12])), (h0_9, .inl (yh0_9, 60, .inl fh0_9))])) (va_Qi (fun (r : Int32) (_ : Unit) => IV 0 1 r) (fun (_ : Unit) (t : State) => va_P (dC, dI) vwCl [(h0, .inr (0, [.int h0_0, .int h0_1, .ref h0_2, .ref h0_3, .ref h0_4, .ref h0_5, .ref h0_6, .ref h0_7, .ref h0_8, .ref h0_9, .ref h0_10, .ref h0_11, .ref h0_12])), (h0_9, .inl (yh0_9, 60, .inl fh0_9))] t.heap ∧ va_K (dC, dI) vwCl [(yh0_9, .int)] t ∧ va_D (va_A [(h0, .inr (0, [.int h0_0, .int h0_1, .ref h0_2, .ref h0_3, .ref h0_4, .ref h0_5, .ref h0_6, .ref h0_7, .ref h0_8, .ref h0_9, .ref h0_10, .ref h0_11, .ref h0_12])), (h0_9, .inl (yh0_9, 60, .inl fh0_9))] sz) [(h0, .inr (0, [.int h0_0, .int h0_1, .ref h0_2, .ref h0_3, .ref h0_4, .ref h0_5, .ref h0_6, .ref h0_7, .ref h0_8, .ref h0_9, .ref h0_10, .ref h0_11, .ref h0_12])), (h0_9, .inl (yh0_9, 60, .inl fh0_9))]) (va_A [(h0, .inr (0, [.int h0_0, .int h0_1, .ref h0_2, .ref h0_3, .ref h0_4, .ref h0_5, .ref h0_6, .ref h0_7, .ref h0_8, .ref h0_9, .ref h0_10, .ref h0_11, .ref h0_12])), (h0_9, .inl (yh0_9, 60, .inl fh0_9))] sz)) 0 0 (va_A [(h0, .inr (0, [.int h0_0, .int h0_1, .ref h0_2, .ref h0_3, .ref h0_4, .ref h0_5, .ref h0_6, .ref h0_7, .ref h0_8, .ref h0_9, .ref h0_10, .ref h0_11, .ref h0_12])), (h0_9, .inl (yh0_9, 60, .inl fh0_9))] sz) := by
  refine Met.ofW (cc := cX0_isLow) (maxL := 3) (ret := (some .boolean)) (by decide +kernel) rfl ?_
  intro p e s m args below meth c s₁ B hml hv
  obtain ⟨rfl, hsz, hP, hK, hD0⟩ := hv
  have hx := B.exec
  have hb := B.bytes
  have hr := B.returns
  have hts := atoms_spec (ws := wsX0_isLow) B.pre
  have hown : s.vm.findClass RX0 = some m.cls := findClass_of_methodNamed B.named
  have hlocks := B.notSynchronized
  have inX0_ : ∀ w ∈ wsX00, w ∈ wsX0_isLow := fun _ h => List.mem_cons_of_mem _ (List.mem_append_right _ h)
  subst hsz
  have hD := hD0.self (sz := s.heap.size)
  generalize hAe : va_A [(h0, .inr (0, [.int h0_0, .int h0_1, .ref h0_2, .ref h0_3, .ref h0_4, .ref h0_5, .ref h0_6, .ref h0_7, .ref h0_8, .ref h0_9, .ref h0_10, .ref h0_11, .ref h0_12])), (h0_9, .inl (yh0_9, 60, .inl fh0_9))] s.heap.size = A at hD ⊢
  have hA : ∀ q : Nat, s.heap.size ≤ q → A q := fun q h => by rw [← hAe]; exact Or.inr h
  have hS : va_S A s.heap s.heap [] := va_S.rf
  have hP : va_P (dC, dI) vwCl [(h0, .inr (0, [.int h0_0, .int h0_1, .ref h0_2, .ref h0_3, .ref h0_4, .ref h0_5, .ref h0_6, .ref h0_7, .ref h0_8, .ref h0_9, .ref h0_10, .ref h0_11, .ref h0_12])), (h0_9, .inl (yh0_9, 60, .inl fh0_9))] s.heap := hP
  have hl := lv_entry ([.ref h0, .int p1, .int p2]) (n := 3) (Nat.le_of_ble_eq_true rfl)
  rw [lg_entry_eq]
  generalize (lg_sl ([.ref h0, .int p1, .int p2]) ++ List.replicate (3 - (lg_sl ([.ref h0, .int p1, .int p2])).length) Slot.unset).toArray = ls at hl ⊢
  have hl : lv_has ls 3 [(0, .ref h0), (1, .int p1), (2, .int p2)] := hl
  refine lv_aload_n hx hb dX0_isLow_0 rfl (lv_at hl 0 rfl) ?_
  refine va_get (D := (dC, dI)) (ci := 0) (v := .ref h0_9) (C := RX0) (T := TX0) (N := 13) hx hb hts inX0_ hown hK hP 0 rfl rfl 9 (by decide) (hts (.fieldLink RX0 34 "GateWheel$Circuit" "lows" "[I") (List.mem_of_getElem? (i := 1) rfl)) (fun _ h9 => h9) rfl dX0_isLow_1 ?_
  refine lv_iload_n hx hb dX0_isLow_4 rfl (lv_at hl 1 rfl) ?_
  refine va_iald hx hb hK hP 1 0 rfl rfl (IV_in hy_p1 (by decide) (by decide)) dX0_isLow_5 ?_
  refine lv_topi (fun zy1 ezy1 => ?_)
  refine lv_iload_n hx hb dX0_isLow_6 rfl (lv_at hl 2 rfl) ?_
  refine lv_ishr hx hb dX0_isLow_7 ?_
  refine lv_topi (fun zy2 ezy2 => ?_)
  refine lv_iconst (v := 1) hx hb dX0_isLow_8 (by decide) ?_
  refine lv_iand hx hb dX0_isLow_9 ?_
  refine lv_topi (fun zy3 ezy3 => ?_)
  have by4 : IV 0 1 zy3 := IV_and 1 ezy3 (by decide) (by decide) (by decide) (by decide)
  refine lv_iconst (v := 1) hx hb dX0_isLow_10 (by decide) ?_
  refine lv_icmp_ne (tgt := 18) hx hb dX0_isLow_11 (by decide) (fun cy5 => ?_) (fun cy5 => ?_)
  · have h_cy5 := cy5
    have by6 : IV 0 0 zy3 := IV_ne_hi cy5 by4 (IV_mk (a := 1) (b := 1) (by decide) (by decide)) (by decide) (by decide) (by decide)
    refine lv_iconst (v := 0) hx hb dX0_isLow_18 (by decide) ?_
    exact W.zret (v := 0) hx hb hr (by decide) (fun t ht hW => ⟨⟨0, (), rfl, (IV_mk (by decide) (by decide)), by rw [ht]; exact hP, va_K.moved hW.alike hK, hD⟩, hS.F ht⟩) hS.2.2 dX0_isLow_19
  · have h_cy5 := cy5
    have by7 : IV 1 1 zy3 := IV_eq_l cy5 by4 (IV_mk (a := 1) (b := 1) (by decide) (by decide)) (by decide) (by decide)
    refine lv_iconst (v := 1) hx hb dX0_isLow_14 (by decide) ?_
    refine lv_goto (tgt := 19) hx hb dX0_isLow_15 (by decide) ?_
    exact W.zret (v := 1) hx hb hr (by decide) (fun t ht hW => ⟨⟨1, (), rfl, (IV_mk (by decide) (by decide)), by rw [ht]; exact hP, va_K.moved hW.alike hK, hD⟩, hS.F ht⟩) hS.2.2 dX0_isLow_19

set_option maxHeartbeats 4000000 in
set_option maxRecDepth 100000 in
theorem s_X0_dependsOn (l : Launch) (dC : Nat → ClassId) (dI : Nat → Nat → Nat) (h0 : Nat) (h0_10 : Nat) (h0_0 : Int32) (h0_1 : Int32) (h0_2 : Nat) (h0_3 : Nat) (h0_4 : Nat) (h0_5 : Nat) (h0_6 : Nat) (h0_7 : Nat) (h0_8 : Nat) (h0_9 : Nat) (h0_11 : Nat) (h0_12 : Nat) (yh0_10 : ClassId) (fh0_10 : Nat → Int64) (p1 : Int32) (p2 : Int64) (sz : Nat) (hy_h0_0 : IV 0 60 h0_0) (hy_p1 : IV 0 59 p1) : Met l yX0_dependsOn wsX0_dependsOn ({ frames := 0, cells := 0, slots := 0, locals := 0 }) (va_Pc [.ref h0, .int p1, .long p2] (fun U => U.heap.size = sz ∧ va_P (dC, dI) vwCl [(h0, .inr (0, [.int h0_0, .int h0_1, .ref h0_2, .ref h0_3, .ref h0_4, .ref h0_5, .ref h0_6, .ref h0_7, .ref h0_8, .ref h0_9, .ref h0_10, .ref h0_11, .ref h0_12])), (h0_10, .inl (yh0_10, 60, .inr (.inl fh0_10)))] U.heap ∧ va_K (dC, dI) vwCl [(yh0_10, .long)] U ∧ va_D (fun _ => True) [(h0, .inr (0, [.int h0_0, .int h0_1, .ref h0_2, .ref h0_3, .ref h0_4, .ref h0_5, .ref h0_6, .ref h0_7, .ref h0_8, .ref h0_9, .ref h0_10, .ref h0_11, .ref h0_12])), (h0_10, .inl (yh0_10, 60, .inr (.inl fh0_10)))])) (va_Qi (fun (r : Int32) (_ : Unit) => IV 0 1 r) (fun (_ : Unit) (t : State) => va_P (dC, dI) vwCl [(h0, .inr (0, [.int h0_0, .int h0_1, .ref h0_2, .ref h0_3, .ref h0_4, .ref h0_5, .ref h0_6, .ref h0_7, .ref h0_8, .ref h0_9, .ref h0_10, .ref h0_11, .ref h0_12])), (h0_10, .inl (yh0_10, 60, .inr (.inl fh0_10)))] t.heap ∧ va_K (dC, dI) vwCl [(yh0_10, .long)] t ∧ va_D (va_A [(h0, .inr (0, [.int h0_0, .int h0_1, .ref h0_2, .ref h0_3, .ref h0_4, .ref h0_5, .ref h0_6, .ref h0_7, .ref h0_8, .ref h0_9, .ref h0_10, .ref h0_11, .ref h0_12])), (h0_10, .inl (yh0_10, 60, .inr (.inl fh0_10)))] sz) [(h0, .inr (0, [.int h0_0, .int h0_1, .ref h0_2, .ref h0_3, .ref h0_4, .ref h0_5, .ref h0_6, .ref h0_7, .ref h0_8, .ref h0_9, .ref h0_10, .ref h0_11, .ref h0_12])), (h0_10, .inl (yh0_10, 60, .inr (.inl fh0_10)))]) (va_A [(h0, .inr (0, [.int h0_0, .int h0_1, .ref h0_2, .ref h0_3, .ref h0_4, .ref h0_5, .ref h0_6, .ref h0_7, .ref h0_8, .ref h0_9, .ref h0_10, .ref h0_11, .ref h0_12])), (h0_10, .inl (yh0_10, 60, .inr (.inl fh0_10)))] sz)) 0 0 (va_A [(h0, .inr (0, [.int h0_0, .int h0_1, .ref h0_2, .ref h0_3, .ref h0_4, .ref h0_5, .ref h0_6, .ref h0_7, .ref h0_8, .ref h0_9, .ref h0_10, .ref h0_11, .ref h0_12])), (h0_10, .inl (yh0_10, 60, .inr (.inl fh0_10)))] sz) := by
  refine Met.ofW (cc := cX0_dependsOn) (maxL := 4) (ret := (some .boolean)) (by decide +kernel) rfl ?_
  intro p e s m args below meth c s₁ B hml hv
  obtain ⟨rfl, hsz, hP, hK, hD0⟩ := hv
  have hx := B.exec
  have hb := B.bytes
  have hr := B.returns
  have hts := atoms_spec (ws := wsX0_dependsOn) B.pre
  have hown : s.vm.findClass RX0 = some m.cls := findClass_of_methodNamed B.named
  have hlocks := B.notSynchronized
  have inX0_ : ∀ w ∈ wsX00, w ∈ wsX0_dependsOn := fun _ h => List.mem_cons_of_mem _ (List.mem_append_right _ h)
  subst hsz
  have hD := hD0.self (sz := s.heap.size)
  generalize hAe : va_A [(h0, .inr (0, [.int h0_0, .int h0_1, .ref h0_2, .ref h0_3, .ref h0_4, .ref h0_5, .ref h0_6, .ref h0_7, .ref h0_8, .ref h0_9, .ref h0_10, .ref h0_11, .ref h0_12])), (h0_10, .inl (yh0_10, 60, .inr (.inl fh0_10)))] s.heap.size = A at hD ⊢
  have hA : ∀ q : Nat, s.heap.size ≤ q → A q := fun q h => by rw [← hAe]; exact Or.inr h
  have hS : va_S A s.heap s.heap [] := va_S.rf
  have hP : va_P (dC, dI) vwCl [(h0, .inr (0, [.int h0_0, .int h0_1, .ref h0_2, .ref h0_3, .ref h0_4, .ref h0_5, .ref h0_6, .ref h0_7, .ref h0_8, .ref h0_9, .ref h0_10, .ref h0_11, .ref h0_12])), (h0_10, .inl (yh0_10, 60, .inr (.inl fh0_10)))] s.heap := hP
  have hl := lv_entry ([.ref h0, .int p1, .long p2]) (n := 4) (Nat.le_of_ble_eq_true rfl)
  rw [lg_entry_eq]
  generalize (lg_sl ([.ref h0, .int p1, .long p2]) ++ List.replicate (4 - (lg_sl ([.ref h0, .int p1, .long p2])).length) Slot.unset).toArray = ls at hl ⊢
  have hl : lv_has ls 4 [(0, .ref h0), (1, .int p1), (2, .long p2)] := hl
  refine lv_aload_n hx hb dX0_dependsOn_0 rfl (lv_at hl 0 rfl) ?_
  refine va_get (D := (dC, dI)) (ci := 0) (v := .ref h0_10) (C := RX0) (T := TX0) (N := 13) hx hb hts inX0_ hown hK hP 0 rfl rfl 10 (by decide) (hts (.fieldLink RX0 37 "GateWheel$Circuit" "hangs" "[J") (List.mem_of_getElem? (i := 1) rfl)) (fun _ h9 => h9) rfl dX0_dependsOn_1 ?_
  refine lv_iload_n hx hb dX0_dependsOn_4 rfl (lv_at hl 1 rfl) ?_
  refine va_lald hx hb hK hP 1 0 rfl rfl (IV_in hy_p1 (by decide) (by decide)) dX0_dependsOn_5 ?_
  refine lv_topl (fun zy1 ezy1 => ?_)
  refine lv_lload_n hx hb dX0_dependsOn_6 rfl (lv_at hl 2 rfl) ?_
  refine lv_land hx hb dX0_dependsOn_7 ?_
  refine lv_topl (fun zy2 ezy2 => ?_)
  refine lv_lconst (v := 0) hx hb dX0_dependsOn_8 (by decide) ?_
  refine W.lcmp hx hb dX0_dependsOn_9 ?_
  refine lv_topi (fun zy3 ezy3 => ?_)
  refine lv_if_eq (tgt := 17) hx hb dX0_dependsOn_10 (by decide) (fun cy4 => ?_) (fun cy4 => ?_)
  · have h_cy4 := cy4
    have by5 : IV 0 0 zy3 := IV_eq_l cy4 (IV_top zy3) (IV_mk (a := 0) (b := 0) (by decide) (by decide)) (by decide) (by decide)
    refine lv_iconst (v := 0) hx hb dX0_dependsOn_17 (by decide) ?_
    exact W.zret (v := 0) hx hb hr (by decide) (fun t ht hW => ⟨⟨0, (), rfl, (IV_mk (by decide) (by decide)), by rw [ht]; exact hP, va_K.moved hW.alike hK, hD⟩, hS.F ht⟩) hS.2.2 dX0_dependsOn_18
  · have h_cy4 := cy4
    refine lv_iconst (v := 1) hx hb dX0_dependsOn_13 (by decide) ?_
    refine lv_goto (tgt := 18) hx hb dX0_dependsOn_14 (by decide) ?_
    exact W.zret (v := 1) hx hb hr (by decide) (fun t ht hW => ⟨⟨1, (), rfl, (IV_mk (by decide) (by decide)), by rw [ht]; exact hP, va_K.moved hW.alike hK, hD⟩, hS.F ht⟩) hS.2.2 dX0_dependsOn_18

set_option maxHeartbeats 4000000 in
set_option maxRecDepth 100000 in
theorem s_X0_levelAbove (l : Launch) (dC : Nat → ClassId) (dI : Nat → Nat → Nat) (h0 : Nat) (h0_11 : Nat) (h0_0 : Int32) (h0_1 : Int32) (h0_2 : Nat) (h0_3 : Nat) (h0_4 : Nat) (h0_5 : Nat) (h0_6 : Nat) (h0_7 : Nat) (h0_8 : Nat) (h0_9 : Nat) (h0_10 : Nat) (h0_12 : Nat) (yh0_11 : ClassId) (fh0_11 : Nat → Int32) (p1 : Int64) (sz : Nat) (hy_h0_0 : IV 0 60 h0_0) : Met l yX0_levelAbove wsX0_levelAbove ({ frames := 1, cells := 0, slots := 0, locals := 13 }) (va_Pc [.ref h0, .long p1] (fun U => U.heap.size = sz ∧ va_P (dC, dI) vwCl [(h0, .inr (0, [.int h0_0, .int h0_1, .ref h0_2, .ref h0_3, .ref h0_4, .ref h0_5, .ref h0_6, .ref h0_7, .ref h0_8, .ref h0_9, .ref h0_10, .ref h0_11, .ref h0_12])), (h0_11, .inl (yh0_11, 60, .inl fh0_11))] U.heap ∧ va_K (dC, dI) vwCl [(yh0_11, .int)] U ∧ va_D (fun _ => True) [(h0, .inr (0, [.int h0_0, .int h0_1, .ref h0_2, .ref h0_3, .ref h0_4, .ref h0_5, .ref h0_6, .ref h0_7, .ref h0_8, .ref h0_9, .ref h0_10, .ref h0_11, .ref h0_12])), (h0_11, .inl (yh0_11, 60, .inl fh0_11))])) (va_Qi (fun (r : Int32) (_ : Unit) => IV 0 2147483647 r) (fun (_ : Unit) (t : State) => va_P (dC, dI) vwCl [(h0, .inr (0, [.int h0_0, .int h0_1, .ref h0_2, .ref h0_3, .ref h0_4, .ref h0_5, .ref h0_6, .ref h0_7, .ref h0_8, .ref h0_9, .ref h0_10, .ref h0_11, .ref h0_12])), (h0_11, .inl (yh0_11, 60, .inl fh0_11))] t.heap ∧ va_K (dC, dI) vwCl [(yh0_11, .int)] t ∧ va_D (va_A [(h0, .inr (0, [.int h0_0, .int h0_1, .ref h0_2, .ref h0_3, .ref h0_4, .ref h0_5, .ref h0_6, .ref h0_7, .ref h0_8, .ref h0_9, .ref h0_10, .ref h0_11, .ref h0_12])), (h0_11, .inl (yh0_11, 60, .inl fh0_11))] sz) [(h0, .inr (0, [.int h0_0, .int h0_1, .ref h0_2, .ref h0_3, .ref h0_4, .ref h0_5, .ref h0_6, .ref h0_7, .ref h0_8, .ref h0_9, .ref h0_10, .ref h0_11, .ref h0_12])), (h0_11, .inl (yh0_11, 60, .inl fh0_11))]) (va_A [(h0, .inr (0, [.int h0_0, .int h0_1, .ref h0_2, .ref h0_3, .ref h0_4, .ref h0_5, .ref h0_6, .ref h0_7, .ref h0_8, .ref h0_9, .ref h0_10, .ref h0_11, .ref h0_12])), (h0_11, .inl (yh0_11, 60, .inl fh0_11))] sz)) 0 0 (va_A [(h0, .inr (0, [.int h0_0, .int h0_1, .ref h0_2, .ref h0_3, .ref h0_4, .ref h0_5, .ref h0_6, .ref h0_7, .ref h0_8, .ref h0_9, .ref h0_10, .ref h0_11, .ref h0_12])), (h0_11, .inl (yh0_11, 60, .inl fh0_11))] sz) := by
  refine Met.ofW (cc := cX0_levelAbove) (maxL := 5) (ret := (some .int)) (by decide +kernel) rfl ?_
  intro p e s m args below meth c s₁ B hml hv
  obtain ⟨rfl, hsz, hP, hK, hD0⟩ := hv
  have hx := B.exec
  have hb := B.bytes
  have hr := B.returns
  have hts := atoms_spec (ws := wsX0_levelAbove) B.pre
  have hown : s.vm.findClass RX0 = some m.cls := findClass_of_methodNamed B.named
  have hlocks := B.notSynchronized
  have inX0_ : ∀ w ∈ wsX00, w ∈ wsX0_levelAbove := fun _ h => List.mem_cons_of_mem _ (List.mem_append_right _ h)
  subst hsz
  have hD := hD0.self (sz := s.heap.size)
  generalize hAe : va_A [(h0, .inr (0, [.int h0_0, .int h0_1, .ref h0_2, .ref h0_3, .ref h0_4, .ref h0_5, .ref h0_6, .ref h0_7, .ref h0_8, .ref h0_9, .ref h0_10, .ref h0_11, .ref h0_12])), (h0_11, .inl (yh0_11, 60, .inl fh0_11))] s.heap.size = A at hD ⊢
  have hA : ∀ q : Nat, s.heap.size ≤ q → A q := fun q h => by rw [← hAe]; exact Or.inr h
  have hS : va_S A s.heap s.heap [] := va_S.rf
  have hP : va_P (dC, dI) vwCl [(h0, .inr (0, [.int h0_0, .int h0_1, .ref h0_2, .ref h0_3, .ref h0_4, .ref h0_5, .ref h0_6, .ref h0_7, .ref h0_8, .ref h0_9, .ref h0_10, .ref h0_11, .ref h0_12])), (h0_11, .inl (yh0_11, 60, .inl fh0_11))] s.heap := hP
  have hl := lv_entry ([.ref h0, .long p1]) (n := 5) (Nat.le_of_ble_eq_true rfl)
  rw [lg_entry_eq]
  generalize (lg_sl ([.ref h0, .long p1]) ++ List.replicate (5 - (lg_sl ([.ref h0, .long p1])).length) Slot.unset).toArray = ls at hl ⊢
  have hl : lv_has ls 5 [(0, .ref h0), (1, .long p1)] := hl
  refine lv_iconst (v := 0) hx hb dX0_levelAbove_0 (by decide) ?_
  refine lv_istore_n (lv' := [(3, .int 0), (0, .ref h0), (1, .long p1)]) hx hb dX0_levelAbove_1 rfl hl (by decide) rfl (fun ls hl => ?_)
  refine lv_iconst (v := 0) hx hb dX0_levelAbove_2 (by decide) ?_
  refine lv_istore (lv' := [(4, .int 0), (3, .int 0), (0, .ref h0), (1, .long p1)]) hx hb dX0_levelAbove_3 hl (by decide) rfl (fun ls hl => ?_)
  refine W_abs (fun GWy7 eGy8 => ?_)
  have lpy9 : ∀ (n : Nat) (my5 : Int32) (my6 : Int32) (HGWy7 : Heap) (locs : List Loc) (ls : Array Slot), 61 - my5.toInt ≤ (n : Int) → IV 0 60 my5 → IV 0 2147483647 my6 → va_P (dC, dI) vwCl [(h0, .inr (0, [.int h0_0, .int h0_1, .ref h0_2, .ref h0_3, .ref h0_4, .ref h0_5, .ref h0_6, .ref h0_7, .ref h0_8, .ref h0_9, .ref h0_10, .ref h0_11, .ref h0_12])), (h0_11, .inl (yh0_11, 60, .inl fh0_11))] HGWy7 → va_D A [(h0, .inr (0, [.int h0_0, .int h0_1, .ref h0_2, .ref h0_3, .ref h0_4, .ref h0_5, .ref h0_6, .ref h0_7, .ref h0_8, .ref h0_9, .ref h0_10, .ref h0_11, .ref h0_12])), (h0_11, .inl (yh0_11, 60, .inl fh0_11))] → va_S A s.heap HGWy7 locs → lv_has ls 5 [(4, .int my5), (3, .int my6), (0, .ref h0), (1, .long p1)] → GWy7 HGWy7 locs 0 0 (F0 m 5 ls []) := by
    intro n
    induction n with
    | zero =>
      intro my5 my6 HGWy7 locs ls hmGWy7 hmy5 hmy6 hP hD hS hl
      exact (IV_u0 hmy5 hmGWy7 (by decide)).elim
    | succ n ihGWy7 =>
      intro my5 my6 HGWy7 locs ls hmGWy7 hmy5 hmy6 hP hD hS hl
      refine (eGy8 _ _ _ _ _).mpr ?_
      refine lv_iload hx hb dX0_levelAbove_5 (lv_at hl 0 rfl) ?_
      refine lv_aload_n hx hb dX0_levelAbove_7 rfl (lv_at hl 2 rfl) ?_
      refine va_get (D := (dC, dI)) (ci := 0) (v := .int h0_0) (C := RX0) (T := TX0) (N := 13) hx hb hts inX0_ hown hK hP 0 rfl rfl 0 (by decide) (hts (.fieldLink RX0 46 "GateWheel$Circuit" "count" "I") (List.mem_of_getElem? (i := 1) rfl)) (fun _ h9 => h9) rfl dX0_levelAbove_8 ?_
      refine lv_icmp_ge (tgt := 45) hx hb dX0_levelAbove_11 (by decide) (fun cy10 => ?_) (fun cy10 => ?_)
      · have h_cy10 := cy10
        refine lv_iload_n hx hb dX0_levelAbove_45 rfl (lv_at hl 1 rfl) ?_
        exact W.iret (v := my6) hx hb hr (fun t ht hW => ⟨⟨my6, (), rfl, hmy6, by rw [ht]; exact hP, va_K.moved hW.alike hK, hD⟩, hS.F ht⟩) hS.2.2 dX0_levelAbove_46
      · have h_cy10 := cy10
        have by11 : IV 1 60 h0_0 := IV_nle_l cy10 hy_h0_0 hmy5 (by decide) (by decide)
        have by12 : IV 0 59 my5 := IV_nle_r cy10 hy_h0_0 hmy5 (by decide) (by decide)
        refine lv_lload_n hx hb dX0_levelAbove_14 rfl (lv_at hl 3 rfl) ?_
        refine lv_iload hx hb dX0_levelAbove_15 (lv_at hl 0 rfl) ?_
        refine lv_lushr hx hb dX0_levelAbove_17 rfl ?_
        refine lv_topl (fun zy13 ezy13 => ?_)
        refine lv_lconst (v := 1) hx hb dX0_levelAbove_18 (by decide) ?_
        refine lv_land hx hb dX0_levelAbove_19 ?_
        refine lv_topl (fun zy14 ezy14 => ?_)
        refine lv_lconst (v := 1) hx hb dX0_levelAbove_20 (by decide) ?_
        refine W.lcmp hx hb dX0_levelAbove_21 ?_
        refine lv_topi (fun zy15 ezy15 => ?_)
        refine lv_if_ne (tgt := 39) hx hb dX0_levelAbove_22 (by decide) (fun cy16 => ?_) (fun cy16 => ?_)
        · have h_cy16 := cy16
          obtain ⟨zy17, ezy17⟩ : ∃ y : Int32, y = my5 + Int32.ofInt 1 := ⟨_, rfl⟩
          have by18 : IV 1 60 zy17 := IV_add (c := 1) (d := 1) ezy17 by12 (IV_mk (by decide) (by decide)) (by decide) (by decide) (by decide) (by decide)
          refine lv_iinc (v := zy17) (lv' := [(4, .int zy17), (3, .int my6), (0, .ref h0), (1, .long p1)]) hx hb dX0_levelAbove_39 hl (k := 0) rfl ezy17.symm (by decide) rfl (fun ls hl => ?_)
          refine lv_goto (tgt := 5) hx hb dX0_levelAbove_42 (by decide) ?_
          exact (eGy8 _ _ _ _ _).mp (ihGWy7 zy17 my6 _ _ _ (IV_u1 hmGWy7 (IV_step (c := 1) ezy17 by12 (by decide) (by decide) (by decide)) (by decide)) (IV_wk by18 (by decide) (by decide)) hmy6 hP hD hS (lv_sub hl [0, 1, 2, 3] rfl))
        · have h_cy16 := cy16
          have by19 : IV 0 0 zy15 := IV_eq_l cy16 (IV_top zy15) (IV_mk (a := 0) (b := 0) (by decide) (by decide)) (by decide) (by decide)
          refine lv_iload_n hx hb dX0_levelAbove_25 rfl (lv_at hl 1 rfl) ?_
          refine lv_aload_n hx hb dX0_levelAbove_26 rfl (lv_at hl 2 rfl) ?_
          refine va_get (D := (dC, dI)) (ci := 0) (v := .ref h0_11) (C := RX0) (T := TX0) (N := 13) hx hb hts inX0_ hown hK hP 0 rfl rfl 11 (by decide) (hts (.fieldLink RX0 40 "GateWheel$Circuit" "levels" "[I") (List.mem_of_getElem? (i := 2) rfl)) (fun _ h9 => h9) rfl dX0_levelAbove_27 ?_
          refine lv_iload hx hb dX0_levelAbove_30 (lv_at hl 0 rfl) ?_
          refine va_iald hx hb hK hP 1 0 rfl rfl (IV_in by12 (by decide) (by decide)) dX0_levelAbove_32 ?_
          refine lv_topi (fun zy20 ezy20 => ?_)
          refine lv_iconst (v := 1) hx hb dX0_levelAbove_33 (by decide) ?_
          refine lv_iadd hx hb dX0_levelAbove_34 ?_
          refine lv_topi (fun zy21 ezy21 => ?_)
          refine va_mmax hx hb (by rw [hml]; exact hl.1.symm) hown (hts (.methodLink RX0 75 Lib.Math.max.name) (List.mem_of_getElem? (i := 3) rfl)) (hts (.static Lib.Math.max.name) (List.mem_of_getElem? (i := 4) rfl)) (hts (.initialized "java/lang/Math") (List.mem_of_getElem? (i := 5) rfl)) (hts (.code Lib.Math.max.name Lib.Math.max.code 2 (some .int)) (List.mem_of_getElem? (i := 6) rfl)) (Nat.le_of_ble_eq_true rfl) (Nat.le_of_ble_eq_true rfl) (Nat.le_of_ble_eq_true rfl) (Nat.le_of_ble_eq_true rfl) dX0_levelAbove_35 ?_
          refine lv_topi (fun zy22 ezy22 => ?_)
          have by23 : IV 0 2147483647 zy22 := IV_max ezy22 hmy6 (IV_top zy21) (by decide) (by decide)
          refine lv_istore_n (lv' := [(3, .int zy22), (4, .int my5), (0, .ref h0), (1, .long p1)]) hx hb dX0_levelAbove_38 rfl hl (by decide) rfl (fun ls hl => ?_)
          obtain ⟨zy24, ezy24⟩ : ∃ y : Int32, y = my5 + Int32.ofInt 1 := ⟨_, rfl⟩
          have by25 : IV 1 60 zy24 := IV_add (c := 1) (d := 1) ezy24 by12 (IV_mk (by decide) (by decide)) (by decide) (by decide) (by decide) (by decide)
          refine lv_iinc (v := zy24) (lv' := [(4, .int zy24), (3, .int zy22), (0, .ref h0), (1, .long p1)]) hx hb dX0_levelAbove_39 hl (k := 1) rfl ezy24.symm (by decide) rfl (fun ls hl => ?_)
          refine lv_goto (tgt := 5) hx hb dX0_levelAbove_42 (by decide) ?_
          exact (eGy8 _ _ _ _ _).mp (ihGWy7 zy24 zy22 _ _ _ (IV_u1 hmGWy7 (IV_step (c := 1) ezy24 by12 (by decide) (by decide) (by decide)) (by decide)) (IV_wk by25 (by decide) (by decide)) by23 hP hD hS (lv_sub hl [0, 1, 2, 3] rfl))
  exact lpy9 61 0 0 _ _ _ (IV_ui (IV_mk (a := 0) (b := 0) (by decide) (by decide)) (by decide)) (IV_mk (by decide) (by decide)) (IV_mk (by decide) (by decide)) hP hD hS (lv_sub hl [0, 1, 2, 3] rfl)

set_option maxHeartbeats 4000000 in
set_option maxRecDepth 100000 in
theorem s_X0_arrange (l : Launch) (dC : Nat → ClassId) (dI : Nat → Nat → Nat) (h0 : Nat) (h0_10 : Nat) (h0_11 : Nat) (h0_12 : Nat) (h0_0 : Int32) (h0_1 : Int32) (h0_2 : Nat) (h0_3 : Nat) (h0_4 : Nat) (h0_5 : Nat) (h0_6 : Nat) (h0_7 : Nat) (h0_8 : Nat) (h0_9 : Nat) (yh0_10 : ClassId) (fh0_10 : Nat → Int64) (yh0_11 : ClassId) (fh0_11 : Nat → Int32) (yh0_12 : ClassId) (fh0_12 : Nat → Int32) (sz : Nat) (hy_h0_0 : IV 0 60 h0_0) (hy_fh0_12 : AR 0 59 fh0_12) : Met l yX0_arrange wsX0_arrange ({ frames := 2, cells := 0, slots := 0, locals := 37 }) (va_Pc [.ref h0] (fun U => U.heap.size = sz ∧ va_P (dC, dI) vwCl [(h0, .inr (0, [.int h0_0, .int h0_1, .ref h0_2, .ref h0_3, .ref h0_4, .ref h0_5, .ref h0_6, .ref h0_7, .ref h0_8, .ref h0_9, .ref h0_10, .ref h0_11, .ref h0_12])), (h0_10, .inl (yh0_10, 60, .inr (.inl fh0_10))), (h0_11, .inl (yh0_11, 60, .inl fh0_11)), (h0_12, .inl (yh0_12, 60, .inl fh0_12))] U.heap ∧ va_K (dC, dI) vwCl [(yh0_10, .long), (yh0_11, .int), (yh0_12, .int)] U ∧ va_D (fun _ => True) [(h0, .inr (0, [.int h0_0, .int h0_1, .ref h0_2, .ref h0_3, .ref h0_4, .ref h0_5, .ref h0_6, .ref h0_7, .ref h0_8, .ref h0_9, .ref h0_10, .ref h0_11, .ref h0_12])), (h0_10, .inl (yh0_10, 60, .inr (.inl fh0_10))), (h0_11, .inl (yh0_11, 60, .inl fh0_11)), (h0_12, .inl (yh0_12, 60, .inl fh0_12))])) (va_Qv (fun (_ : Unit) => True) (fun (_ : Unit) (t : State) => ∃ (fy91 : Nat → Int32), ∃ (fy92 : Nat → Int32), AR 0 59 fy92 ∧ va_P (dC, dI) vwCl [(h0, .inr (0, [.int h0_0, .int h0_1, .ref h0_2, .ref h0_3, .ref h0_4, .ref h0_5, .ref h0_6, .ref h0_7, .ref h0_8, .ref h0_9, .ref h0_10, .ref h0_11, .ref h0_12])), (h0_10, .inl (yh0_10, 60, .inr (.inl fh0_10))), (h0_11, .inl (yh0_11, 60, .inl fy91)), (h0_12, .inl (yh0_12, 60, .inl fy92))] t.heap ∧ va_K (dC, dI) vwCl [(yh0_10, .long), (yh0_11, .int), (yh0_12, .int)] t ∧ va_D (va_A [(h0, .inr (0, [.int h0_0, .int h0_1, .ref h0_2, .ref h0_3, .ref h0_4, .ref h0_5, .ref h0_6, .ref h0_7, .ref h0_8, .ref h0_9, .ref h0_10, .ref h0_11, .ref h0_12])), (h0_10, .inl (yh0_10, 60, .inr (.inl fh0_10))), (h0_11, .inl (yh0_11, 60, .inl fh0_11)), (h0_12, .inl (yh0_12, 60, .inl fh0_12))] sz) [(h0, .inr (0, [.int h0_0, .int h0_1, .ref h0_2, .ref h0_3, .ref h0_4, .ref h0_5, .ref h0_6, .ref h0_7, .ref h0_8, .ref h0_9, .ref h0_10, .ref h0_11, .ref h0_12])), (h0_10, .inl (yh0_10, 60, .inr (.inl fh0_10))), (h0_11, .inl (yh0_11, 60, .inl fy91)), (h0_12, .inl (yh0_12, 60, .inl fy92))]) (va_A [(h0, .inr (0, [.int h0_0, .int h0_1, .ref h0_2, .ref h0_3, .ref h0_4, .ref h0_5, .ref h0_6, .ref h0_7, .ref h0_8, .ref h0_9, .ref h0_10, .ref h0_11, .ref h0_12])), (h0_10, .inl (yh0_10, 60, .inr (.inl fh0_10))), (h0_11, .inl (yh0_11, 60, .inl fh0_11)), (h0_12, .inl (yh0_12, 60, .inl fh0_12))] sz)) 0 0 (va_A [(h0, .inr (0, [.int h0_0, .int h0_1, .ref h0_2, .ref h0_3, .ref h0_4, .ref h0_5, .ref h0_6, .ref h0_7, .ref h0_8, .ref h0_9, .ref h0_10, .ref h0_11, .ref h0_12])), (h0_10, .inl (yh0_10, 60, .inr (.inl fh0_10))), (h0_11, .inl (yh0_11, 60, .inl fh0_11)), (h0_12, .inl (yh0_12, 60, .inl fh0_12))] sz) := by
  refine Met.ofW (cc := cX0_arrange) (maxL := 7) (ret := none) (by decide +kernel) rfl ?_
  intro p e s m args below meth c s₁ B hml hv
  obtain ⟨rfl, hsz, hP, hK, hD0⟩ := hv
  have hx := B.exec
  have hb := B.bytes
  have hr := B.returns
  have hts := atoms_spec (ws := wsX0_arrange) B.pre
  have hown : s.vm.findClass RX0 = some m.cls := findClass_of_methodNamed B.named
  have hlocks := B.notSynchronized
  have inX0_ : ∀ w ∈ wsX00, w ∈ wsX0_arrange := fun _ h => List.mem_cons_of_mem _ (List.mem_append_right _ h)
  subst hsz
  have hD := hD0.self (sz := s.heap.size)
  generalize hAe : va_A [(h0, .inr (0, [.int h0_0, .int h0_1, .ref h0_2, .ref h0_3, .ref h0_4, .ref h0_5, .ref h0_6, .ref h0_7, .ref h0_8, .ref h0_9, .ref h0_10, .ref h0_11, .ref h0_12])), (h0_10, .inl (yh0_10, 60, .inr (.inl fh0_10))), (h0_11, .inl (yh0_11, 60, .inl fh0_11)), (h0_12, .inl (yh0_12, 60, .inl fh0_12))] s.heap.size = A at hD ⊢
  have hA : ∀ q : Nat, s.heap.size ≤ q → A q := fun q h => by rw [← hAe]; exact Or.inr h
  have hS : va_S A s.heap s.heap [] := va_S.rf
  have hP : va_P (dC, dI) vwCl [(h0, .inr (0, [.int h0_0, .int h0_1, .ref h0_2, .ref h0_3, .ref h0_4, .ref h0_5, .ref h0_6, .ref h0_7, .ref h0_8, .ref h0_9, .ref h0_10, .ref h0_11, .ref h0_12])), (h0_10, .inl (yh0_10, 60, .inr (.inl fh0_10))), (h0_11, .inl (yh0_11, 60, .inl fh0_11)), (h0_12, .inl (yh0_12, 60, .inl fh0_12))] s.heap := hP
  have hl := lv_entry ([.ref h0]) (n := 7) (Nat.le_of_ble_eq_true rfl)
  rw [lg_entry_eq]
  generalize (lg_sl ([.ref h0]) ++ List.replicate (7 - (lg_sl ([.ref h0])).length) Slot.unset).toArray = ls at hl ⊢
  have hl : lv_has ls 7 [(0, .ref h0)] := hl
  refine lv_lconst (v := 0) hx hb dX0_arrange_0 (by decide) ?_
  refine lv_lstore_n (lv' := [(1, .long 0), (0, .ref h0)]) hx hb dX0_arrange_1 rfl hl (by decide) rfl (fun ls hl => ?_)
  refine lv_iconst (v := 0) hx hb dX0_arrange_2 (by decide) ?_
  refine lv_istore_n (lv' := [(3, .int 0), (1, .long 0), (0, .ref h0)]) hx hb dX0_arrange_3 rfl hl (by decide) rfl (fun ls hl => ?_)
  refine lv_iconst (v := 0) hx hb dX0_arrange_4 (by decide) ?_
  refine lv_istore (lv' := [(4, .int 0), (3, .int 0), (1, .long 0), (0, .ref h0)]) hx hb dX0_arrange_5 hl (by decide) rfl (fun ls hl => ?_)
  refine W_abs (fun GWy16 eGy17 => ?_)
  have lpy18 : ∀ (n : Nat) (my11 : Int32) (my12 : Int32) (my13 : Int64) (fy14 : Nat → Int32) (fy15 : Nat → Int32) (HGWy16 : Heap) (locs : List Loc) (ls : Array Slot), 61 - my11.toInt ≤ (n : Int) → IV 0 60 my11 → IV 0 2147483647 my12 → AR 0 59 fy15 → va_P (dC, dI) vwCl [(h0, .inr (0, [.int h0_0, .int h0_1, .ref h0_2, .ref h0_3, .ref h0_4, .ref h0_5, .ref h0_6, .ref h0_7, .ref h0_8, .ref h0_9, .ref h0_10, .ref h0_11, .ref h0_12])), (h0_10, .inl (yh0_10, 60, .inr (.inl fh0_10))), (h0_11, .inl (yh0_11, 60, .inl fy14)), (h0_12, .inl (yh0_12, 60, .inl fy15))] HGWy16 → va_D A [(h0, .inr (0, [.int h0_0, .int h0_1, .ref h0_2, .ref h0_3, .ref h0_4, .ref h0_5, .ref h0_6, .ref h0_7, .ref h0_8, .ref h0_9, .ref h0_10, .ref h0_11, .ref h0_12])), (h0_10, .inl (yh0_10, 60, .inr (.inl fh0_10))), (h0_11, .inl (yh0_11, 60, .inl fy14)), (h0_12, .inl (yh0_12, 60, .inl fy15))] → va_S A s.heap HGWy16 locs → lv_has ls 7 [(4, .int my11), (3, .int my12), (1, .long my13), (0, .ref h0)] → GWy16 HGWy16 locs 0 0 (F0 m 7 ls []) := by
    intro n
    induction n with
    | zero =>
      intro my11 my12 my13 fy14 fy15 HGWy16 locs ls hmGWy16 hmy11 hmy12 hfy15 hP hD hS hl
      exact (IV_u0 hmy11 hmGWy16 (by decide)).elim
    | succ n ihGWy16 =>
      intro my11 my12 my13 fy14 fy15 HGWy16 locs ls hmGWy16 hmy11 hmy12 hfy15 hP hD hS hl
      refine (eGy17 _ _ _ _ _).mpr ?_
      refine lv_iload hx hb dX0_arrange_7 (lv_at hl 0 rfl) ?_
      refine lv_aload_n hx hb dX0_arrange_9 rfl (lv_at hl 3 rfl) ?_
      refine va_get (D := (dC, dI)) (ci := 0) (v := .int h0_0) (C := RX0) (T := TX0) (N := 13) hx hb hts inX0_ hown hK hP 0 rfl rfl 0 (by decide) (hts (.fieldLink RX0 46 "GateWheel$Circuit" "count" "I") (List.mem_of_getElem? (i := 1) rfl)) (fun _ h9 => h9) rfl dX0_arrange_10 ?_
      refine lv_icmp_ge (tgt := 129) hx hb dX0_arrange_13 (by decide) (fun cy19 => ?_) (fun cy19 => ?_)
      · have h_cy19 := cy19
        exact W.vret hx hb hr (fun t ht hW => ⟨⟨(), rfl, trivial, fy14, fy15, hfy15, by rw [ht]; exact hP, va_K.moved hW.alike hK, hD⟩, hS.F ht⟩) hS.2.2 dX0_arrange_129
      · have h_cy19 := cy19
        have by20 : IV 1 60 h0_0 := IV_nle_l cy19 hy_h0_0 hmy11 (by decide) (by decide)
        have by21 : IV 0 59 my11 := IV_nle_r cy19 hy_h0_0 hmy11 (by decide) (by decide)
        refine lv_iload_n hx hb dX0_arrange_16 rfl (lv_at hl 1 rfl) ?_
        refine lv_aload_n hx hb dX0_arrange_17 rfl (lv_at hl 3 rfl) ?_
        refine va_get (D := (dC, dI)) (ci := 0) (v := .int h0_0) (C := RX0) (T := TX0) (N := 13) hx hb hts inX0_ hown hK hP 0 rfl rfl 0 (by decide) (hts (.fieldLink RX0 46 "GateWheel$Circuit" "count" "I") (List.mem_of_getElem? (i := 1) rfl)) (fun _ h9 => h9) rfl dX0_arrange_18 ?_
        refine lv_icmp_ge (tgt := 129) hx hb dX0_arrange_21 (by decide) (fun cy22 => ?_) (fun cy22 => ?_)
        · have h_cy22 := cy22
          have by23 : IV 1 2147483647 my12 := IV_le_r cy22 by20 hmy12 (by decide) (by decide)
          exact W.vret hx hb hr (fun t ht hW => ⟨⟨(), rfl, trivial, fy14, fy15, hfy15, by rw [ht]; exact hP, va_K.moved hW.alike hK, hD⟩, hS.F ht⟩) hS.2.2 dX0_arrange_129
        · have h_cy22 := cy22
          have by24 : IV 0 59 my12 := IV_nle_r cy22 by20 hmy12 (by decide) (by decide)
          refine lv_iconst (v := 0) hx hb dX0_arrange_24 (by decide) ?_
          refine lv_istore (lv' := [(5, .int 0), (4, .int my11), (3, .int my12), (1, .long my13), (0, .ref h0)]) hx hb dX0_arrange_25 hl (by decide) rfl (fun ls hl => ?_)
          refine W_abs (fun GWy40 eGy41 => ?_)
          have lpy42 : ∀ (n : Nat) (my35 : Int32) (my36 : Int32) (my37 : Int64) (fy38 : Nat → Int32) (fy39 : Nat → Int32) (HGWy40 : Heap) (locs : List Loc) (ls : Array Slot), 61 - my35.toInt ≤ (n : Int) → IV 0 60 my35 → IV 0 60 my36 → AR 0 59 fy39 → va_P (dC, dI) vwCl [(h0, .inr (0, [.int h0_0, .int h0_1, .ref h0_2, .ref h0_3, .ref h0_4, .ref h0_5, .ref h0_6, .ref h0_7, .ref h0_8, .ref h0_9, .ref h0_10, .ref h0_11, .ref h0_12])), (h0_10, .inl (yh0_10, 60, .inr (.inl fh0_10))), (h0_11, .inl (yh0_11, 60, .inl fy38)), (h0_12, .inl (yh0_12, 60, .inl fy39))] HGWy40 → va_D A [(h0, .inr (0, [.int h0_0, .int h0_1, .ref h0_2, .ref h0_3, .ref h0_4, .ref h0_5, .ref h0_6, .ref h0_7, .ref h0_8, .ref h0_9, .ref h0_10, .ref h0_11, .ref h0_12])), (h0_10, .inl (yh0_10, 60, .inr (.inl fh0_10))), (h0_11, .inl (yh0_11, 60, .inl fy38)), (h0_12, .inl (yh0_12, 60, .inl fy39))] → va_S A s.heap HGWy40 locs → lv_has ls 7 [(5, .int my35), (4, .int my11), (3, .int my36), (1, .long my37), (0, .ref h0)] → GWy40 HGWy40 locs 0 0 (F0 m 27 ls []) := by
            intro n
            induction n with
            | zero =>
              intro my35 my36 my37 fy38 fy39 HGWy40 locs ls hmGWy40 hmy35 hmy36 hfy39 hP hD hS hl
              exact (IV_u0 hmy35 hmGWy40 (by decide)).elim
            | succ n ihGWy40 =>
              intro my35 my36 my37 fy38 fy39 HGWy40 locs ls hmGWy40 hmy35 hmy36 hfy39 hP hD hS hl
              refine (eGy41 _ _ _ _ _).mpr ?_
              refine lv_iload hx hb dX0_arrange_27 (lv_at hl 0 rfl) ?_
              refine lv_aload_n hx hb dX0_arrange_29 rfl (lv_at hl 4 rfl) ?_
              refine va_get (D := (dC, dI)) (ci := 0) (v := .int h0_0) (C := RX0) (T := TX0) (N := 13) hx hb hts inX0_ hown hK hP 0 rfl rfl 0 (by decide) (hts (.fieldLink RX0 46 "GateWheel$Circuit" "count" "I") (List.mem_of_getElem? (i := 1) rfl)) (fun _ h9 => h9) rfl dX0_arrange_30 ?_
              refine lv_icmp_ge (tgt := 123) hx hb dX0_arrange_33 (by decide) (fun cy43 => ?_) (fun cy43 => ?_)
              · have h_cy43 := cy43
                have by44 : IV 1 60 my35 := IV_le_r cy43 by20 hmy35 (by decide) (by decide)
                obtain ⟨zy45, ezy45⟩ : ∃ y : Int32, y = my11 + Int32.ofInt 1 := ⟨_, rfl⟩
                have by46 : IV 1 60 zy45 := IV_add (c := 1) (d := 1) ezy45 by21 (IV_mk (by decide) (by decide)) (by decide) (by decide) (by decide) (by decide)
                refine lv_iinc (v := zy45) (lv' := [(4, .int zy45), (5, .int my35), (3, .int my36), (1, .long my37), (0, .ref h0)]) hx hb dX0_arrange_123 hl (k := 1) rfl ezy45.symm (by decide) rfl (fun ls hl => ?_)
                refine lv_goto (tgt := 7) hx hb dX0_arrange_126 (by decide) ?_
                exact (eGy17 _ _ _ _ _).mp (ihGWy16 zy45 my36 my37 fy38 fy39 _ _ _ (IV_u1 hmGWy16 (IV_step (c := 1) ezy45 by21 (by decide) (by decide) (by decide)) (by decide)) (IV_wk by46 (by decide) (by decide)) (IV_wk hmy36 (by decide) (by decide)) hfy39 hP hD hS (lv_sub hl [0, 2, 3, 4] rfl))
              · have h_cy43 := cy43
                have by47 : IV 0 59 my35 := IV_nle_r cy43 by20 hmy35 (by decide) (by decide)
                refine lv_iload_n hx hb dX0_arrange_36 rfl (lv_at hl 2 rfl) ?_
                refine lv_aload_n hx hb dX0_arrange_37 rfl (lv_at hl 4 rfl) ?_
                refine va_get (D := (dC, dI)) (ci := 0) (v := .int h0_0) (C := RX0) (T := TX0) (N := 13) hx hb hts inX0_ hown hK hP 0 rfl rfl 0 (by decide) (hts (.fieldLink RX0 46 "GateWheel$Circuit" "count" "I") (List.mem_of_getElem? (i := 1) rfl)) (fun _ h9 => h9) rfl dX0_arrange_38 ?_
                refine lv_icmp_ge (tgt := 123) hx hb dX0_arrange_41 (by decide) (fun cy48 => ?_) (fun cy48 => ?_)
                · have h_cy48 := cy48
                  have by49 : IV 1 60 my36 := IV_le_r cy48 by20 hmy36 (by decide) (by decide)
                  obtain ⟨zy50, ezy50⟩ : ∃ y : Int32, y = my11 + Int32.ofInt 1 := ⟨_, rfl⟩
                  have by51 : IV 1 60 zy50 := IV_add (c := 1) (d := 1) ezy50 by21 (IV_mk (by decide) (by decide)) (by decide) (by decide) (by decide) (by decide)
                  refine lv_iinc (v := zy50) (lv' := [(4, .int zy50), (5, .int my35), (3, .int my36), (1, .long my37), (0, .ref h0)]) hx hb dX0_arrange_123 hl (k := 1) rfl ezy50.symm (by decide) rfl (fun ls hl => ?_)
                  refine lv_goto (tgt := 7) hx hb dX0_arrange_126 (by decide) ?_
                  exact (eGy17 _ _ _ _ _).mp (ihGWy16 zy50 my36 my37 fy38 fy39 _ _ _ (IV_u1 hmGWy16 (IV_step (c := 1) ezy50 by21 (by decide) (by decide) (by decide)) (by decide)) (IV_wk by51 (by decide) (by decide)) (IV_wk by49 (by decide) (by decide)) hfy39 hP hD hS (lv_sub hl [0, 2, 3, 4] rfl))
                · have h_cy48 := cy48
                  have by52 : IV 0 59 my36 := IV_nle_r cy48 by20 hmy36 (by decide) (by decide)
                  refine lv_lload_n hx hb dX0_arrange_44 rfl (lv_at hl 3 rfl) ?_
                  refine lv_iload hx hb dX0_arrange_45 (lv_at hl 0 rfl) ?_
                  refine lv_lushr hx hb dX0_arrange_47 rfl ?_
                  refine lv_topl (fun zy53 ezy53 => ?_)
                  refine lv_lconst (v := 1) hx hb dX0_arrange_48 (by decide) ?_
                  refine lv_land hx hb dX0_arrange_49 ?_
                  refine lv_topl (fun zy54 ezy54 => ?_)
                  refine lv_lconst (v := 1) hx hb dX0_arrange_50 (by decide) ?_
                  refine W.lcmp hx hb dX0_arrange_51 ?_
                  refine lv_topi (fun zy55 ezy55 => ?_)
                  refine W_abs (fun GWy58 eGy59 => ?_)
                  have jny60 : ∀ (my57 : Int32) (HGWy58 : Heap) (locs : List Loc) (ls : Array Slot), IV 0 1 my57 → va_P (dC, dI) vwCl [(h0, .inr (0, [.int h0_0, .int h0_1, .ref h0_2, .ref h0_3, .ref h0_4, .ref h0_5, .ref h0_6, .ref h0_7, .ref h0_8, .ref h0_9, .ref h0_10, .ref h0_11, .ref h0_12])), (h0_10, .inl (yh0_10, 60, .inr (.inl fh0_10))), (h0_11, .inl (yh0_11, 60, .inl fy38)), (h0_12, .inl (yh0_12, 60, .inl fy39))] HGWy58 → va_D A [(h0, .inr (0, [.int h0_0, .int h0_1, .ref h0_2, .ref h0_3, .ref h0_4, .ref h0_5, .ref h0_6, .ref h0_7, .ref h0_8, .ref h0_9, .ref h0_10, .ref h0_11, .ref h0_12])), (h0_10, .inl (yh0_10, 60, .inr (.inl fh0_10))), (h0_11, .inl (yh0_11, 60, .inl fy38)), (h0_12, .inl (yh0_12, 60, .inl fy39))] → va_S A s.heap HGWy58 locs → lv_has ls 7 [(5, .int my35), (4, .int my11), (3, .int my36), (1, .long my37), (0, .ref h0)] → GWy58 HGWy58 locs 0 0 (F0 m 60 ls [.int my57]) := by
                    intro my57 HGWy58 locs ls hmy57 hP hD hS hl
                    refine (eGy59 _ _ _ _ _).mpr ?_
                    refine lv_istore (lv' := [(6, .int my57), (5, .int my35), (4, .int my11), (3, .int my36), (1, .long my37), (0, .ref h0)]) hx hb dX0_arrange_60 hl (by decide) rfl (fun ls hl => ?_)
                    refine lv_iload hx hb dX0_arrange_62 (lv_at hl 0 rfl) ?_
                    refine lv_if_ne (tgt := 117) hx hb dX0_arrange_64 (by decide) (fun cy61 => ?_) (fun cy61 => ?_)
                    · have h_cy61 := cy61
                      have by62 : IV 1 1 my57 := IV_ne_lo cy61 hmy57 (IV_mk (a := 0) (b := 0) (by decide) (by decide)) (by decide) (by decide) (by decide)
                      obtain ⟨zy63, ezy63⟩ : ∃ y : Int32, y = my35 + Int32.ofInt 1 := ⟨_, rfl⟩
                      have by64 : IV 1 60 zy63 := IV_add (c := 1) (d := 1) ezy63 by47 (IV_mk (by decide) (by decide)) (by decide) (by decide) (by decide) (by decide)
                      refine lv_iinc (v := zy63) (lv' := [(5, .int zy63), (6, .int my57), (4, .int my11), (3, .int my36), (1, .long my37), (0, .ref h0)]) hx hb dX0_arrange_117 hl (k := 1) rfl ezy63.symm (by decide) rfl (fun ls hl => ?_)
                      refine lv_goto (tgt := 27) hx hb dX0_arrange_120 (by decide) ?_
                      exact (eGy41 _ _ _ _ _).mp (ihGWy40 zy63 my36 my37 fy38 fy39 _ _ _ (IV_u1 hmGWy40 (IV_step (c := 1) ezy63 by47 (by decide) (by decide) (by decide)) (by decide)) (IV_wk by64 (by decide) (by decide)) (IV_wk by52 (by decide) (by decide)) hfy39 hP hD hS (lv_sub hl [0, 2, 3, 4, 5] rfl))
                    · have h_cy61 := cy61
                      have by65 : IV 0 0 my57 := IV_eq_l cy61 hmy57 (IV_mk (a := 0) (b := 0) (by decide) (by decide)) (by decide) (by decide)
                      refine lv_aload_n hx hb dX0_arrange_67 rfl (lv_at hl 5 rfl) ?_
                      refine lv_iload hx hb dX0_arrange_68 (lv_at hl 1 rfl) ?_
                      refine lv_lload_n hx hb dX0_arrange_70 rfl (lv_at hl 4 rfl) ?_
                      refine lv_ldc2 hx hb hown (hts (.constantLong RX0 65 (-1)) (List.mem_of_getElem? (i := 2) rfl)) dX0_arrange_71 ?_
                      refine lv_lxor hx hb dX0_arrange_74 ?_
                      refine lv_topl (fun zy66 ezy66 => ?_)
                      have hPc := hP.sub (ws' := [(h0, .inr (0, [.int h0_0, .int h0_1, .ref h0_2, .ref h0_3, .ref h0_4, .ref h0_5, .ref h0_6, .ref h0_7, .ref h0_8, .ref h0_9, .ref h0_10, .ref h0_11, .ref h0_12])), (h0_10, .inl (yh0_10, 60, .inr (.inl fh0_10)))]) [0, 1] rfl
                      have hDc := hD.sub (ws' := [(h0, .inr (0, [.int h0_0, .int h0_1, .ref h0_2, .ref h0_3, .ref h0_4, .ref h0_5, .ref h0_6, .ref h0_7, .ref h0_8, .ref h0_9, .ref h0_10, .ref h0_11, .ref h0_12])), (h0_10, .inl (yh0_10, 60, .inr (.inl fh0_10)))]) [0, 1] (by decide) rfl
                      have hKc := hK.sub (tys' := [(yh0_10, .long)]) [0] rfl
                      have hFc := va_free (wc := [(h0, .inr (0, [.int h0_0, .int h0_1, .ref h0_2, .ref h0_3, .ref h0_4, .ref h0_5, .ref h0_6, .ref h0_7, .ref h0_8, .ref h0_9, .ref h0_10, .ref h0_11, .ref h0_12])), (h0_10, .inl (yh0_10, 60, .inr (.inl fh0_10)))]) hD hS hA [0, 1] rfl
                      refine va_calli (va_runV (As := [.int my35, .long zy66]) (rest := []) ⟨hx, hb, hml, hown, hts⟩ (s_X0_dependsOn l dC dI h0 h0_10 h0_0 h0_1 h0_2 h0_3 h0_4 h0_5 h0_6 h0_7 h0_8 h0_9 h0_11 h0_12 yh0_10 fh0_10 my35 zy66 HGWy58.size (IV_wk by20 (by decide) (by decide)) by47) (cwV 2 hts gX0_arrange_X0_dependsOn rfl rfl rfl (by decide +kernel) ⟨Nat.le_of_ble_eq_true rfl, Nat.le_of_ble_eq_true rfl⟩) ⟨fun a U g mk q => by obtain ⟨q0, q1, qP, qK, qD⟩ := q; exact ⟨q0, q1, qP, va_K.moved (u := U) (U := U.calling g mk a) (Vm.Alike.refl U.vm) qK, qD⟩, va_recv hKc hPc (ci := 0) (q0 := 0) rfl rfl, fun U hU hW => ⟨rfl, by rw [hU], by rw [hU]; exact hPc, va_K.moved hW.alike hKc, hDc.weaken (fun _ _ _ _ => trivial)⟩⟩ rfl rfl hl.1 rfl (lv_room (Nat.le_of_ble_eq_true rfl)) dX0_arrange_75 ⟨Nat.le_of_ble_eq_true rfl, Nat.le_of_ble_eq_true rfl⟩) hS (fun q _ h => hFc q h) hFc (fun ry68 u t Hy67 locs ht hvm hw hB hz1 hk1 hS => ?_)
                      obtain ⟨hP1, hK1, hD1⟩ := hB
                      rw [ht] at hP1
                      obtain ⟨hP, hD⟩ := va_join (wr := [(h0_11, .inl (yh0_11, 60, .inl fy38)), (h0_12, .inl (yh0_12, 60, .inl fy39))]) (w1 := [(h0, .inr (0, [.int h0_0, .int h0_1, .ref h0_2, .ref h0_3, .ref h0_4, .ref h0_5, .ref h0_6, .ref h0_7, .ref h0_8, .ref h0_9, .ref h0_10, .ref h0_11, .ref h0_12])), (h0_10, .inl (yh0_10, 60, .inr (.inl fh0_10)))]) hP hD [0, 1] [2, 3] rfl rfl (by decide) (by decide) hk1 hFc hP1 hD1
                      have hP := hP.sub (ws' := [(h0, .inr (0, [.int h0_0, .int h0_1, .ref h0_2, .ref h0_3, .ref h0_4, .ref h0_5, .ref h0_6, .ref h0_7, .ref h0_8, .ref h0_9, .ref h0_10, .ref h0_11, .ref h0_12])), (h0_10, .inl (yh0_10, 60, .inr (.inl fh0_10))), (h0_11, .inl (yh0_11, 60, .inl fy38)), (h0_12, .inl (yh0_12, 60, .inl fy39))]) [2, 3, 0, 1] rfl
                      have hD := hD.sub (ws' := [(h0, .inr (0, [.int h0_0, .int h0_1, .ref h0_2, .ref h0_3, .ref h0_4, .ref h0_5, .ref h0_6, .ref h0_7, .ref h0_8, .ref h0_9, .ref h0_10, .ref h0_11, .ref h0_12])), (h0_10, .inl (yh0_10, 60, .inr (.inl fh0_10))), (h0_11, .inl (yh0_11, 60, .inl fy38)), (h0_12, .inl (yh0_12, 60, .inl fy39))]) [2, 3, 0, 1] (by decide) rfl
                      have hP : va_P (dC, dI) vwCl [(h0, .inr (0, [.int h0_0, .int h0_1, .ref h0_2, .ref h0_3, .ref h0_4, .ref h0_5, .ref h0_6, .ref h0_7, .ref h0_8, .ref h0_9, .ref h0_10, .ref h0_11, .ref h0_12])), (h0_10, .inl (yh0_10, 60, .inr (.inl fh0_10))), (h0_11, .inl (yh0_11, 60, .inl fy38)), (h0_12, .inl (yh0_12, 60, .inl fy39))] Hy67 := hP
                      have hD : va_D A [(h0, .inr (0, [.int h0_0, .int h0_1, .ref h0_2, .ref h0_3, .ref h0_4, .ref h0_5, .ref h0_6, .ref h0_7, .ref h0_8, .ref h0_9, .ref h0_10, .ref h0_11, .ref h0_12])), (h0_10, .inl (yh0_10, 60, .inr (.inl fh0_10))), (h0_11, .inl (yh0_11, 60, .inl fy38)), (h0_12, .inl (yh0_12, 60, .inl fy39))] := hD
                      have by69 : IV 0 1 ry68 := hw
                      refine lv_if_ne (tgt := 117) hx hb dX0_arrange_78 (by decide) (fun cy70 => ?_) (fun cy70 => ?_)
                      · have h_cy70 := cy70
                        have by71 : IV 1 1 ry68 := IV_ne_lo cy70 by69 (IV_mk (a := 0) (b := 0) (by decide) (by decide)) (by decide) (by decide) (by decide)
                        obtain ⟨zy72, ezy72⟩ : ∃ y : Int32, y = my35 + Int32.ofInt 1 := ⟨_, rfl⟩
                        have by73 : IV 1 60 zy72 := IV_add (c := 1) (d := 1) ezy72 by47 (IV_mk (by decide) (by decide)) (by decide) (by decide) (by decide) (by decide)
                        refine lv_iinc (v := zy72) (lv' := [(5, .int zy72), (6, .int my57), (4, .int my11), (3, .int my36), (1, .long my37), (0, .ref h0)]) hx hb dX0_arrange_117 hl (k := 1) rfl ezy72.symm (by decide) rfl (fun ls hl => ?_)
                        refine lv_goto (tgt := 27) hx hb dX0_arrange_120 (by decide) ?_
                        exact (eGy41 _ _ _ _ _).mp (ihGWy40 zy72 my36 my37 fy38 fy39 _ _ _ (IV_u1 hmGWy40 (IV_step (c := 1) ezy72 by47 (by decide) (by decide) (by decide)) (by decide)) (IV_wk by73 (by decide) (by decide)) (IV_wk by52 (by decide) (by decide)) hfy39 hP hD hS (lv_sub hl [0, 2, 3, 4, 5] rfl))
                      · have h_cy70 := cy70
                        have by74 : IV 0 0 ry68 := IV_eq_l cy70 by69 (IV_mk (a := 0) (b := 0) (by decide) (by decide)) (by decide) (by decide)
                        refine lv_aload_n hx hb dX0_arrange_81 rfl (lv_at hl 5 rfl) ?_
                        refine va_get (D := (dC, dI)) (ci := 0) (v := .ref h0_12) (C := RX0) (T := TX0) (N := 13) hx hb hts inX0_ hown hK hP 0 rfl rfl 12 (by decide) (hts (.fieldLink RX0 43 "GateWheel$Circuit" "order" "[I") (List.mem_of_getElem? (i := 3) rfl)) (fun _ h9 => h9) rfl dX0_arrange_82 ?_
                        refine lv_iload_n hx hb dX0_arrange_85 rfl (lv_at hl 3 rfl) ?_
                        refine lv_iload hx hb dX0_arrange_86 (lv_at hl 1 rfl) ?_
                        refine va_iast hx hb hK hP hD hS 3 2 rfl rfl (IV_in by52 (by decide) (by decide)) dX0_arrange_88 (fun Hy75 locs hP hD hS => ?_)
                        have hP : va_P (dC, dI) vwCl [(h0, .inr (0, [.int h0_0, .int h0_1, .ref h0_2, .ref h0_3, .ref h0_4, .ref h0_5, .ref h0_6, .ref h0_7, .ref h0_8, .ref h0_9, .ref h0_10, .ref h0_11, .ref h0_12])), (h0_10, .inl (yh0_10, 60, .inr (.inl fh0_10))), (h0_11, .inl (yh0_11, 60, .inl fy38)), (h0_12, .inl (yh0_12, 60, .inl (upd fy39 (my36 : Int32).toNatClampNeg my35)))] Hy75 := hP
                        have hD : va_D A [(h0, .inr (0, [.int h0_0, .int h0_1, .ref h0_2, .ref h0_3, .ref h0_4, .ref h0_5, .ref h0_6, .ref h0_7, .ref h0_8, .ref h0_9, .ref h0_10, .ref h0_11, .ref h0_12])), (h0_10, .inl (yh0_10, 60, .inr (.inl fh0_10))), (h0_11, .inl (yh0_11, 60, .inl fy38)), (h0_12, .inl (yh0_12, 60, .inl (upd fy39 (my36 : Int32).toNatClampNeg my35)))] := hD
                        have by77 : AR 0 59 (upd fy39 (my36 : Int32).toNatClampNeg my35) := AR_upd hfy39 by47
                        generalize (upd fy39 (my36 : Int32).toNatClampNeg my35) = fy76 at hP hD by77
                        obtain ⟨zy78, ezy78⟩ : ∃ y : Int32, y = my36 + Int32.ofInt 1 := ⟨_, rfl⟩
                        have by79 : IV 1 60 zy78 := IV_add (c := 1) (d := 1) ezy78 by52 (IV_mk (by decide) (by decide)) (by decide) (by decide) (by decide) (by decide)
                        refine lv_iinc (v := zy78) (lv' := [(3, .int zy78), (6, .int my57), (5, .int my35), (4, .int my11), (1, .long my37), (0, .ref h0)]) hx hb dX0_arrange_89 hl (k := 3) rfl ezy78.symm (by decide) rfl (fun ls hl => ?_)
                        refine lv_lload_n hx hb dX0_arrange_92 rfl (lv_at hl 4 rfl) ?_
                        refine lv_lconst (v := 1) hx hb dX0_arrange_93 (by decide) ?_
                        refine lv_iload hx hb dX0_arrange_94 (lv_at hl 2 rfl) ?_
                        refine lv_lshl hx hb dX0_arrange_96 rfl ?_
                        refine lv_topl (fun zy80 ezy80 => ?_)
                        refine lv_lor hx hb dX0_arrange_97 ?_
                        refine lv_topl (fun zy81 ezy81 => ?_)
                        refine lv_lstore_n (lv' := [(1, .long zy81), (3, .int zy78), (6, .int my57), (5, .int my35), (4, .int my11), (0, .ref h0)]) hx hb dX0_arrange_98 rfl hl (by decide) rfl (fun ls hl => ?_)
                        refine lv_aload_n hx hb dX0_arrange_99 rfl (lv_at hl 5 rfl) ?_
                        refine va_get (D := (dC, dI)) (ci := 0) (v := .ref h0_11) (C := RX0) (T := TX0) (N := 13) hx hb hts inX0_ hown hK hP 0 rfl rfl 11 (by decide) (hts (.fieldLink RX0 40 "GateWheel$Circuit" "levels" "[I") (List.mem_of_getElem? (i := 4) rfl)) (fun _ h9 => h9) rfl dX0_arrange_100 ?_
                        refine lv_iload hx hb dX0_arrange_103 (lv_at hl 3 rfl) ?_
                        refine lv_aload_n hx hb dX0_arrange_105 rfl (lv_at hl 5 rfl) ?_
                        refine lv_aload_n hx hb dX0_arrange_106 rfl (lv_at hl 5 rfl) ?_
                        refine va_get (D := (dC, dI)) (ci := 0) (v := .ref h0_10) (C := RX0) (T := TX0) (N := 13) hx hb hts inX0_ hown hK hP 0 rfl rfl 10 (by decide) (hts (.fieldLink RX0 37 "GateWheel$Circuit" "hangs" "[J") (List.mem_of_getElem? (i := 5) rfl)) (fun _ h9 => h9) rfl dX0_arrange_107 ?_
                        refine lv_iload hx hb dX0_arrange_110 (lv_at hl 3 rfl) ?_
                        refine va_lald hx hb hK hP 1 0 rfl rfl (IV_in by47 (by decide) (by decide)) dX0_arrange_112 ?_
                        refine lv_topl (fun zy82 ezy82 => ?_)
                        have hPc := hP.sub (ws' := [(h0, .inr (0, [.int h0_0, .int h0_1, .ref h0_2, .ref h0_3, .ref h0_4, .ref h0_5, .ref h0_6, .ref h0_7, .ref h0_8, .ref h0_9, .ref h0_10, .ref h0_11, .ref h0_12])), (h0_11, .inl (yh0_11, 60, .inl fy38))]) [0, 2] rfl
                        have hDc := hD.sub (ws' := [(h0, .inr (0, [.int h0_0, .int h0_1, .ref h0_2, .ref h0_3, .ref h0_4, .ref h0_5, .ref h0_6, .ref h0_7, .ref h0_8, .ref h0_9, .ref h0_10, .ref h0_11, .ref h0_12])), (h0_11, .inl (yh0_11, 60, .inl fy38))]) [0, 2] (by decide) rfl
                        have hKc := hK.sub (tys' := [(yh0_11, .int)]) [1] rfl
                        have hFc := va_free (wc := [(h0, .inr (0, [.int h0_0, .int h0_1, .ref h0_2, .ref h0_3, .ref h0_4, .ref h0_5, .ref h0_6, .ref h0_7, .ref h0_8, .ref h0_9, .ref h0_10, .ref h0_11, .ref h0_12])), (h0_11, .inl (yh0_11, 60, .inl fy38))]) hD hS hA [0, 2] rfl
                        refine va_calli (va_runV (As := [.long zy82]) (rest := [.int my35, .ref h0_11]) ⟨hx, hb, hml, hown, hts⟩ (s_X0_levelAbove l dC dI h0 h0_11 h0_0 h0_1 h0_2 h0_3 h0_4 h0_5 h0_6 h0_7 h0_8 h0_9 h0_10 h0_12 yh0_11 fy38 zy82 Hy75.size (IV_wk by20 (by decide) (by decide))) (cwV 1 hts gX0_arrange_X0_levelAbove rfl rfl rfl (by decide +kernel) ⟨Nat.le_of_ble_eq_true rfl, Nat.le_of_ble_eq_true rfl⟩) ⟨fun a U g mk q => by obtain ⟨q0, q1, qP, qK, qD⟩ := q; exact ⟨q0, q1, qP, va_K.moved (u := U) (U := U.calling g mk a) (Vm.Alike.refl U.vm) qK, qD⟩, va_recv hKc hPc (ci := 0) (q0 := 0) rfl rfl, fun U hU hW => ⟨rfl, by rw [hU], by rw [hU]; exact hPc, va_K.moved hW.alike hKc, hDc.weaken (fun _ _ _ _ => trivial)⟩⟩ rfl rfl hl.1 rfl (lv_room (Nat.le_of_ble_eq_true rfl)) dX0_arrange_113 ⟨Nat.le_of_ble_eq_true rfl, Nat.le_of_ble_eq_true rfl⟩) hS (fun q _ h => hFc q h) hFc (fun ry84 u t Hy83 locs ht hvm hw hB hz1 hk1 hS => ?_)
                        obtain ⟨hP1, hK1, hD1⟩ := hB
                        rw [ht] at hP1
                        obtain ⟨hP, hD⟩ := va_join (wr := [(h0_10, .inl (yh0_10, 60, .inr (.inl fh0_10))), (h0_12, .inl (yh0_12, 60, .inl fy76))]) (w1 := [(h0, .inr (0, [.int h0_0, .int h0_1, .ref h0_2, .ref h0_3, .ref h0_4, .ref h0_5, .ref h0_6, .ref h0_7, .ref h0_8, .ref h0_9, .ref h0_10, .ref h0_11, .ref h0_12])), (h0_11, .inl (yh0_11, 60, .inl fy38))]) hP hD [0, 2] [1, 3] rfl rfl (by decide) (by decide) hk1 hFc hP1 hD1
                        have hP := hP.sub (ws' := [(h0, .inr (0, [.int h0_0, .int h0_1, .ref h0_2, .ref h0_3, .ref h0_4, .ref h0_5, .ref h0_6, .ref h0_7, .ref h0_8, .ref h0_9, .ref h0_10, .ref h0_11, .ref h0_12])), (h0_10, .inl (yh0_10, 60, .inr (.inl fh0_10))), (h0_11, .inl (yh0_11, 60, .inl fy38)), (h0_12, .inl (yh0_12, 60, .inl fy76))]) [2, 0, 3, 1] rfl
                        have hD := hD.sub (ws' := [(h0, .inr (0, [.int h0_0, .int h0_1, .ref h0_2, .ref h0_3, .ref h0_4, .ref h0_5, .ref h0_6, .ref h0_7, .ref h0_8, .ref h0_9, .ref h0_10, .ref h0_11, .ref h0_12])), (h0_10, .inl (yh0_10, 60, .inr (.inl fh0_10))), (h0_11, .inl (yh0_11, 60, .inl fy38)), (h0_12, .inl (yh0_12, 60, .inl fy76))]) [2, 0, 3, 1] (by decide) rfl
                        have hP : va_P (dC, dI) vwCl [(h0, .inr (0, [.int h0_0, .int h0_1, .ref h0_2, .ref h0_3, .ref h0_4, .ref h0_5, .ref h0_6, .ref h0_7, .ref h0_8, .ref h0_9, .ref h0_10, .ref h0_11, .ref h0_12])), (h0_10, .inl (yh0_10, 60, .inr (.inl fh0_10))), (h0_11, .inl (yh0_11, 60, .inl fy38)), (h0_12, .inl (yh0_12, 60, .inl fy76))] Hy83 := hP
                        have hD : va_D A [(h0, .inr (0, [.int h0_0, .int h0_1, .ref h0_2, .ref h0_3, .ref h0_4, .ref h0_5, .ref h0_6, .ref h0_7, .ref h0_8, .ref h0_9, .ref h0_10, .ref h0_11, .ref h0_12])), (h0_10, .inl (yh0_10, 60, .inr (.inl fh0_10))), (h0_11, .inl (yh0_11, 60, .inl fy38)), (h0_12, .inl (yh0_12, 60, .inl fy76))] := hD
                        have by85 : IV 0 2147483647 ry84 := hw
                        refine va_iast hx hb hK hP hD hS 2 1 rfl rfl (IV_in by47 (by decide) (by decide)) dX0_arrange_116 (fun Hy86 locs hP hD hS => ?_)
                        have hP : va_P (dC, dI) vwCl [(h0, .inr (0, [.int h0_0, .int h0_1, .ref h0_2, .ref h0_3, .ref h0_4, .ref h0_5, .ref h0_6, .ref h0_7, .ref h0_8, .ref h0_9, .ref h0_10, .ref h0_11, .ref h0_12])), (h0_10, .inl (yh0_10, 60, .inr (.inl fh0_10))), (h0_11, .inl (yh0_11, 60, .inl (upd fy38 (my35 : Int32).toNatClampNeg ry84))), (h0_12, .inl (yh0_12, 60, .inl fy76))] Hy86 := hP
                        have hD : va_D A [(h0, .inr (0, [.int h0_0, .int h0_1, .ref h0_2, .ref h0_3, .ref h0_4, .ref h0_5, .ref h0_6, .ref h0_7, .ref h0_8, .ref h0_9, .ref h0_10, .ref h0_11, .ref h0_12])), (h0_10, .inl (yh0_10, 60, .inr (.inl fh0_10))), (h0_11, .inl (yh0_11, 60, .inl (upd fy38 (my35 : Int32).toNatClampNeg ry84))), (h0_12, .inl (yh0_12, 60, .inl fy76))] := hD
                        generalize (upd fy38 (my35 : Int32).toNatClampNeg ry84) = fy87 at hP hD
                        obtain ⟨zy88, ezy88⟩ : ∃ y : Int32, y = my35 + Int32.ofInt 1 := ⟨_, rfl⟩
                        have by89 : IV 1 60 zy88 := IV_add (c := 1) (d := 1) ezy88 by47 (IV_mk (by decide) (by decide)) (by decide) (by decide) (by decide) (by decide)
                        refine lv_iinc (v := zy88) (lv' := [(5, .int zy88), (1, .long zy81), (3, .int zy78), (6, .int my57), (4, .int my11), (0, .ref h0)]) hx hb dX0_arrange_117 hl (k := 3) rfl ezy88.symm (by decide) rfl (fun ls hl => ?_)
                        refine lv_goto (tgt := 27) hx hb dX0_arrange_120 (by decide) ?_
                        exact (eGy41 _ _ _ _ _).mp (ihGWy40 zy88 zy78 zy81 fy87 fy76 _ _ _ (IV_u1 hmGWy40 (IV_step (c := 1) ezy88 by47 (by decide) (by decide) (by decide)) (by decide)) (IV_wk by89 (by decide) (by decide)) (IV_wk by79 (by decide) (by decide)) by77 hP hD hS (lv_sub hl [0, 4, 2, 1, 5] rfl))
                  refine (eGy59 _ _ _ _ _).mpr ?_
                  refine lv_if_ne (tgt := 59) hx hb dX0_arrange_52 (by decide) (fun cy56 => ?_) (fun cy56 => ?_)
                  · have h_cy56 := cy56
                    refine lv_iconst (v := 0) hx hb dX0_arrange_59 (by decide) ?_
                    exact (eGy59 _ _ _ _ _).mp (jny60 0 _ _ _ (IV_mk (by decide) (by decide)) hP hD hS (lv_sub hl [0, 1, 2, 3, 4] rfl))
                  · have h_cy56 := cy56
                    have by90 : IV 0 0 zy55 := IV_eq_l cy56 (IV_top zy55) (IV_mk (a := 0) (b := 0) (by decide) (by decide)) (by decide) (by decide)
                    refine lv_iconst (v := 1) hx hb dX0_arrange_55 (by decide) ?_
                    refine lv_goto (tgt := 60) hx hb dX0_arrange_56 (by decide) ?_
                    exact (eGy59 _ _ _ _ _).mp (jny60 1 _ _ _ (IV_mk (by decide) (by decide)) hP hD hS (lv_sub hl [0, 1, 2, 3, 4] rfl))
          exact lpy42 61 0 my12 my13 fy14 fy15 _ _ _ (IV_ui (IV_mk (a := 0) (b := 0) (by decide) (by decide)) (by decide)) (IV_mk (by decide) (by decide)) (IV_wk by24 (by decide) (by decide)) hfy15 hP hD hS (lv_sub hl [0, 1, 2, 3, 4] rfl)
  exact lpy18 61 0 0 0 fh0_11 fh0_12 _ _ _ (IV_ui (IV_mk (a := 0) (b := 0) (by decide) (by decide)) (by decide)) (IV_mk (by decide) (by decide)) (IV_mk (by decide) (by decide)) hy_fh0_12 hP hD hS (lv_sub hl [0, 1, 2, 3] rfl)
