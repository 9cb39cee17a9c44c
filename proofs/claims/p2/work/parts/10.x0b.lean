set_option maxHeartbeats 4000000 in
set_option maxRecDepth 100000 in
theorem s_X0_size_bus (l : Launch) (dC : Nat → ClassId) (dI : Nat → Nat → Nat) (h0 : Nat) (h0_4 : Nat) (h0_8 : Nat) (h0_0 : Int32) (h0_1 : Int32) (h0_2 : Nat) (h0_3 : Nat) (h0_5 : Nat) (h0_6 : Nat) (h0_7 : Nat) (h0_9 : Nat) (h0_10 : Nat) (h0_11 : Nat) (h0_12 : Nat) (yh0_4 : ClassId) (fh0_4 : Nat → Int32) (yh0_8 : ClassId) (fh0_8 : Nat → Int32) (p1 : Int32) (kz : Int32) (sz : Nat) (ekz : kz = fh0_4 p1.toNatClampNeg) (hy_kz : IV 1 1 kz) (hy_h0_0 : IV 0 60 h0_0) (hy_p1 : IV 0 59 p1) (hy_fh0_8 : AR 0 12 fh0_8) : Met l yX0_size wsX0_size ({ frames := 0, cells := 0, slots := 0, locals := 0 }) (va_Pc [.ref h0, .int p1] (fun U => U.heap.size = sz ∧ va_P (dC, dI) vwCl [(h0, .inr (0, [.int h0_0, .int h0_1, .ref h0_2, .ref h0_3, .ref h0_4, .ref h0_5, .ref h0_6, .ref h0_7, .ref h0_8, .ref h0_9, .ref h0_10, .ref h0_11, .ref h0_12])), (h0_4, .inl (yh0_4, 60, .inl fh0_4)), (h0_8, .inl (yh0_8, 60, .inl fh0_8))] U.heap ∧ va_K (dC, dI) vwCl [(yh0_4, .int), (yh0_8, .int)] U ∧ va_D (fun _ => True) [(h0, .inr (0, [.int h0_0, .int h0_1, .ref h0_2, .ref h0_3, .ref h0_4, .ref h0_5, .ref h0_6, .ref h0_7, .ref h0_8, .ref h0_9, .ref h0_10, .ref h0_11, .ref h0_12])), (h0_4, .inl (yh0_4, 60, .inl fh0_4)), (h0_8, .inl (yh0_8, 60, .inl fh0_8))])) (va_Qi (fun (r : Int32) (_ : Unit) => IV 0 6 r) (fun (_ : Unit) (t : State) => va_P (dC, dI) vwCl [(h0, .inr (0, [.int h0_0, .int h0_1, .ref h0_2, .ref h0_3, .ref h0_4, .ref h0_5, .ref h0_6, .ref h0_7, .ref h0_8, .ref h0_9, .ref h0_10, .ref h0_11, .ref h0_12])), (h0_4, .inl (yh0_4, 60, .inl fh0_4)), (h0_8, .inl (yh0_8, 60, .inl fh0_8))] t.heap ∧ va_K (dC, dI) vwCl [(yh0_4, .int), (yh0_8, .int)] t ∧ va_D (va_A [(h0, .inr (0, [.int h0_0, .int h0_1, .ref h0_2, .ref h0_3, .ref h0_4, .ref h0_5, .ref h0_6, .ref h0_7, .ref h0_8, .ref h0_9, .ref h0_10, .ref h0_11, .ref h0_12])), (h0_4, .inl (yh0_4, 60, .inl fh0_4)), (h0_8, .inl (yh0_8, 60, .inl fh0_8))] sz) [(h0, .inr (0, [.int h0_0, .int h0_1, .ref h0_2, .ref h0_3, .ref h0_4, .ref h0_5, .ref h0_6, .ref h0_7, .ref h0_8, .ref h0_9, .ref h0_10, .ref h0_11, .ref h0_12])), (h0_4, .inl (yh0_4, 60, .inl fh0_4)), (h0_8, .inl (yh0_8, 60, .inl fh0_8))]) (va_A [(h0, .inr (0, [.int h0_0, .int h0_1, .ref h0_2, .ref h0_3, .ref h0_4, .ref h0_5, .ref h0_6, .ref h0_7, .ref h0_8, .ref h0_9, .ref h0_10, .ref h0_11, .ref h0_12])), (h0_4, .inl (yh0_4, 60, .inl fh0_4)), (h0_8, .inl (yh0_8, 60, .inl fh0_8))] sz)) 0 0 (va_A [(h0, .inr (0, [.int h0_0, .int h0_1, .ref h0_2, .ref h0_3, .ref h0_4, .ref h0_5, .ref h0_6, .ref h0_7, .ref h0_8, .ref h0_9, .ref h0_10, .ref h0_11, .ref h0_12])), (h0_4, .inl (yh0_4, 60, .inl fh0_4)), (h0_8, .inl (yh0_8, 60, .inl fh0_8))] sz) := by
  refine Met.ofW (cc := cX0_size) (maxL := 2) (ret := (some .int)) (by decide +kernel) rfl ?_
  intro p e s m args below meth c s₁ B hml hv
  obtain ⟨rfl, hsz, hP, hK, hD0⟩ := hv
  have hx := B.exec
  have hb := B.bytes
  have hr := B.returns
  have hts := atoms_spec (ws := wsX0_size) B.pre
  have hown : s.vm.findClass RX0 = some m.cls := findClass_of_methodNamed B.named
  have hlocks := B.notSynchronized
  have inX0_ : ∀ w ∈ wsX00, w ∈ wsX0_size := fun _ h => List.mem_cons_of_mem _ (List.mem_append_right _ h)
  subst hsz
  have hD := hD0.self (sz := s.heap.size)
  generalize hAe : va_A [(h0, .inr (0, [.int h0_0, .int h0_1, .ref h0_2, .ref h0_3, .ref h0_4, .ref h0_5, .ref h0_6, .ref h0_7, .ref h0_8, .ref h0_9, .ref h0_10, .ref h0_11, .ref h0_12])), (h0_4, .inl (yh0_4, 60, .inl fh0_4)), (h0_8, .inl (yh0_8, 60, .inl fh0_8))] s.heap.size = A at hD ⊢
  have hA : ∀ q : Nat, s.heap.size ≤ q → A q := fun q h => by rw [← hAe]; exact Or.inr h
  have hS : va_S A s.heap s.heap [] := va_S.rf
  have hP : va_P (dC, dI) vwCl [(h0, .inr (0, [.int h0_0, .int h0_1, .ref h0_2, .ref h0_3, .ref h0_4, .ref h0_5, .ref h0_6, .ref h0_7, .ref h0_8, .ref h0_9, .ref h0_10, .ref h0_11, .ref h0_12])), (h0_4, .inl (yh0_4, 60, .inl fh0_4)), (h0_8, .inl (yh0_8, 60, .inl fh0_8))] s.heap := hP
  have hl := lv_entry ([.ref h0, .int p1]) (n := 2) (Nat.le_of_ble_eq_true rfl)
  rw [lg_entry_eq]
  generalize (lg_sl ([.ref h0, .int p1]) ++ List.replicate (2 - (lg_sl ([.ref h0, .int p1])).length) Slot.unset).toArray = ls at hl ⊢
  have hl : lv_has ls 2 [(0, .ref h0), (1, .int p1)] := hl
  refine lv_aload_n hx hb dX0_size_0 rfl (lv_at hl 0 rfl) ?_
  refine va_get (D := (dC, dI)) (ci := 0) (v := .ref h0_4) (C := RX0) (T := TX0) (N := 13) hx hb hts inX0_ hown hK hP 0 rfl rfl 4 (by decide) (hts (.fieldLink RX0 19 "GateWheel$Circuit" "kinds" "[I") (List.mem_of_getElem? (i := 1) rfl)) (fun _ h9 => h9) rfl dX0_size_1 ?_
  refine lv_iload_n hx hb dX0_size_4 rfl (lv_at hl 1 rfl) ?_
  refine va_iald hx hb hK hP 1 0 rfl rfl (IV_in hy_p1 (by decide) (by decide)) dX0_size_5 ?_
  rw [← ekz]
  refine lv_iconst (v := 1) hx hb dX0_size_6 (by decide) ?_
  refine lv_icmp_ne (tgt := 21) hx hb dX0_size_7 (by decide) (fun hc => (IV_abs (a := 2) (b := 1) (IV_ne_lo hc hy_kz (IV_mk (a := 1) (b := 1) (by decide) (by decide)) (by decide) (by decide) (by decide)) (by decide)).elim) (fun cy1 => ?_)
  refine lv_aload_n hx hb dX0_size_10 rfl (lv_at hl 0 rfl) ?_
  refine va_get (D := (dC, dI)) (ci := 0) (v := .ref h0_8) (C := RX0) (T := TX0) (N := 13) hx hb hts inX0_ hown hK hP 0 rfl rfl 8 (by decide) (hts (.fieldLink RX0 31 "GateWheel$Circuit" "partCounts" "[I") (List.mem_of_getElem? (i := 2) rfl)) (fun _ h9 => h9) rfl dX0_size_11 ?_
  refine lv_iload_n hx hb dX0_size_14 rfl (lv_at hl 1 rfl) ?_
  refine va_iald hx hb hK hP 2 1 rfl rfl (IV_in hy_p1 (by decide) (by decide)) dX0_size_15 ?_
  refine lv_topi (fun zy2 ezy2 => ?_)
  have by3 : IV 0 12 zy2 := AR_get hy_fh0_8 ezy2
  refine lv_iconst (v := 2) hx hb dX0_size_16 (by decide) ?_
  refine lv_idiv hx hb dX0_size_17 (by decide) ?_
  refine lv_topi (fun zy4 ezy4 => ?_)
  have by5 : IV 0 6 zy4 := IV_div2 ezy4 by3 (by decide) (by decide) (by decide)
  refine lv_goto (tgt := 27) hx hb dX0_size_18 (by decide) ?_
  exact W.iret (v := zy4) hx hb hr (fun t ht hW => ⟨⟨zy4, (), rfl, by5, by rw [ht]; exact hP, va_K.moved hW.alike hK, hD⟩, hS.F ht⟩) hS.2.2 dX0_size_27
