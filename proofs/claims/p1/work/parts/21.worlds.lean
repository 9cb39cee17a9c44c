set_option maxHeartbeats 4000000 in
set_option maxRecDepth 100000 in
theorem c_bitCount (l : Launch) (dC : Nat → ClassId) (dI : Nat → Nat → Nat) (sz : Nat) : Met l yJ13_bitCount_95d88 wsJ13_bitCount_95d88 ({ frames := 0, cells := 0, slots := 0, locals := 0 }) (va_Pc [.long 1] (fun U => U.heap.size = sz ∧ va_P (dC, dI) vwCl [] U.heap ∧ va_K (dC, dI) vwCl [] U ∧ va_D (fun _ => True) [])) (va_Qi (fun (r : Int32) (_ : Unit) => r = 1) (fun (_ : Unit) (t : State) => va_P (dC, dI) vwCl [] t.heap ∧ va_K (dC, dI) vwCl [] t ∧ va_D (va_A [] sz) []) (va_A [] sz)) 0 0 (va_A [] sz) := by
  refine Met.ofW (cc := cJ13_bitCount_95d88) (maxL := 2) (ret := (some .int)) (by decide) rfl ?_
  intro p e s m args below meth c s₁ B hml hv
  obtain ⟨rfl, hsz, hP, hK, hD0⟩ := hv
  have hx := B.exec
  have hb := B.bytes
  have hr := B.returns
  have hts := atoms_spec (ws := wsJ13_bitCount_95d88) B.pre
  have hown : s.vm.findClass RJ13 = some m.cls := findClass_of_methodNamed B.named
  have hlocks := B.notSynchronized
  subst hsz
  have hD := hD0.self (sz := s.heap.size)
  generalize hAe : va_A [] s.heap.size = A at hD ⊢
  have hA : ∀ q : Nat, s.heap.size ≤ q → A q := fun q h => by rw [← hAe]; exact Or.inr h
  have hS : va_S A s.heap s.heap [] := va_S.rf
  have hP : va_P (dC, dI) vwCl [] s.heap := hP
  have hl := lv_entry ([.long 1]) (n := 2) (Nat.le_of_ble_eq_true rfl)
  rw [lg_entry_eq]
  generalize (lg_sl ([.long 1]) ++ List.replicate (2 - (lg_sl ([.long 1])).length) Slot.unset).toArray = ls at hl ⊢
  have hl : lv_has ls 2 [(0, .long 1)] := hl
  refine lv_lload_n hx hb dJ13_bitCount_95d88_0 rfl (lv_at hl 0 rfl) ?_
  refine lv_lload_n hx hb dJ13_bitCount_95d88_1 rfl (lv_at hl 0 rfl) ?_
  refine lv_iconst (v := 1) hx hb dJ13_bitCount_95d88_2 (by decide) ?_
  refine lv_lushr (v := 0) hx hb dJ13_bitCount_95d88_3 (by decide) ?_
  refine lv_ldc2 hx hb hown (hts (.constantLong RJ13 314 (6148914691236517205)) (List.mem_of_getElem? (i := 1) rfl)) dJ13_bitCount_95d88_4 ?_
  refine lv_land hx hb dJ13_bitCount_95d88_7 ?_
  refine lv_topl (fun zx1 ezx1 => ?_)
  obtain rfl : zx1 = 0 := by rw [ezx1]; decide
  refine lv_lsub hx hb dJ13_bitCount_95d88_8 ?_
  refine lv_topl (fun zx2 ezx2 => ?_)
  obtain rfl : zx2 = 1 := by rw [ezx2]; decide
  refine lv_lstore_n (lv' := [(0, .long 1)]) hx hb dJ13_bitCount_95d88_9 rfl hl (by decide) rfl (fun ls hl => ?_)
  refine lv_lload_n hx hb dJ13_bitCount_95d88_10 rfl (lv_at hl 0 rfl) ?_
  refine lv_ldc2 hx hb hown (hts (.constantLong RJ13 316 (3689348814741910323)) (List.mem_of_getElem? (i := 2) rfl)) dJ13_bitCount_95d88_11 ?_
  refine lv_land hx hb dJ13_bitCount_95d88_14 ?_
  refine lv_topl (fun zx3 ezx3 => ?_)
  obtain rfl : zx3 = 1 := by rw [ezx3]; decide
  refine lv_lload_n hx hb dJ13_bitCount_95d88_15 rfl (lv_at hl 0 rfl) ?_
  refine lv_iconst (v := 2) hx hb dJ13_bitCount_95d88_16 (by decide) ?_
  refine lv_lushr (v := 0) hx hb dJ13_bitCount_95d88_17 (by decide) ?_
  refine lv_ldc2 hx hb hown (hts (.constantLong RJ13 316 (3689348814741910323)) (List.mem_of_getElem? (i := 2) rfl)) dJ13_bitCount_95d88_18 ?_
  refine lv_land hx hb dJ13_bitCount_95d88_21 ?_
  refine lv_topl (fun zx4 ezx4 => ?_)
  obtain rfl : zx4 = 0 := by rw [ezx4]; decide
  refine lv_ladd hx hb dJ13_bitCount_95d88_22 ?_
  refine lv_topl (fun zx5 ezx5 => ?_)
  obtain rfl : zx5 = 1 := by rw [ezx5]; decide
  refine lv_lstore_n (lv' := [(0, .long 1)]) hx hb dJ13_bitCount_95d88_23 rfl hl (by decide) rfl (fun ls hl => ?_)
  refine lv_lload_n hx hb dJ13_bitCount_95d88_24 rfl (lv_at hl 0 rfl) ?_
  refine lv_lload_n hx hb dJ13_bitCount_95d88_25 rfl (lv_at hl 0 rfl) ?_
  refine lv_iconst (v := 4) hx hb dJ13_bitCount_95d88_26 (by decide) ?_
  refine lv_lushr (v := 0) hx hb dJ13_bitCount_95d88_27 (by decide) ?_
  refine lv_ladd hx hb dJ13_bitCount_95d88_28 ?_
  refine lv_topl (fun zx6 ezx6 => ?_)
  obtain rfl : zx6 = 1 := by rw [ezx6]; decide
  refine lv_ldc2 hx hb hown (hts (.constantLong RJ13 318 (1085102592571150095)) (List.mem_of_getElem? (i := 3) rfl)) dJ13_bitCount_95d88_29 ?_
  refine lv_land hx hb dJ13_bitCount_95d88_32 ?_
  refine lv_topl (fun zx7 ezx7 => ?_)
  obtain rfl : zx7 = 1 := by rw [ezx7]; decide
  refine lv_lstore_n (lv' := [(0, .long 1)]) hx hb dJ13_bitCount_95d88_33 rfl hl (by decide) rfl (fun ls hl => ?_)
  refine lv_lload_n hx hb dJ13_bitCount_95d88_34 rfl (lv_at hl 0 rfl) ?_
  refine lv_lload_n hx hb dJ13_bitCount_95d88_35 rfl (lv_at hl 0 rfl) ?_
  refine lv_bipush (v := 8) hx hb dJ13_bitCount_95d88_36 (by decide) ?_
  refine lv_lushr (v := 0) hx hb dJ13_bitCount_95d88_38 (by decide) ?_
  refine lv_ladd hx hb dJ13_bitCount_95d88_39 ?_
  refine lv_topl (fun zx8 ezx8 => ?_)
  obtain rfl : zx8 = 1 := by rw [ezx8]; decide
  refine lv_lstore_n (lv' := [(0, .long 1)]) hx hb dJ13_bitCount_95d88_40 rfl hl (by decide) rfl (fun ls hl => ?_)
  refine lv_lload_n hx hb dJ13_bitCount_95d88_41 rfl (lv_at hl 0 rfl) ?_
  refine lv_lload_n hx hb dJ13_bitCount_95d88_42 rfl (lv_at hl 0 rfl) ?_
  refine lv_bipush (v := 16) hx hb dJ13_bitCount_95d88_43 (by decide) ?_
  refine lv_lushr (v := 0) hx hb dJ13_bitCount_95d88_45 (by decide) ?_
  refine lv_ladd hx hb dJ13_bitCount_95d88_46 ?_
  refine lv_topl (fun zx9 ezx9 => ?_)
  obtain rfl : zx9 = 1 := by rw [ezx9]; decide
  refine lv_lstore_n (lv' := [(0, .long 1)]) hx hb dJ13_bitCount_95d88_47 rfl hl (by decide) rfl (fun ls hl => ?_)
  refine lv_lload_n hx hb dJ13_bitCount_95d88_48 rfl (lv_at hl 0 rfl) ?_
  refine lv_lload_n hx hb dJ13_bitCount_95d88_49 rfl (lv_at hl 0 rfl) ?_
  refine lv_bipush (v := 32) hx hb dJ13_bitCount_95d88_50 (by decide) ?_
  refine lv_lushr (v := 0) hx hb dJ13_bitCount_95d88_52 (by decide) ?_
  refine lv_ladd hx hb dJ13_bitCount_95d88_53 ?_
  refine lv_topl (fun zx10 ezx10 => ?_)
  obtain rfl : zx10 = 1 := by rw [ezx10]; decide
  refine lv_lstore_n (lv' := [(0, .long 1)]) hx hb dJ13_bitCount_95d88_54 rfl hl (by decide) rfl (fun ls hl => ?_)
  refine lv_lload_n hx hb dJ13_bitCount_95d88_55 rfl (lv_at hl 0 rfl) ?_
  refine lv_l2i (v := 1) hx hb dJ13_bitCount_95d88_56 (by decide) ?_
  refine lv_bipush (v := 127) hx hb dJ13_bitCount_95d88_57 (by decide) ?_
  refine lv_iand hx hb dJ13_bitCount_95d88_59 ?_
  refine lv_topi (fun zx11 ezx11 => ?_)
  obtain rfl : zx11 = 1 := by rw [ezx11]; decide
  have hP9 := hP.sub (ws' := []) [] rfl
  have hD9 := hD.sub (ws' := []) [] (by decide) rfl
  have hK9 := hK.sub (tys' := []) [] rfl
  exact W.iret (v := 1) hx hb hr (fun t ht hW => ⟨⟨1, (), rfl, rfl, by rw [ht]; exact hP9, va_K.moved hW.alike hK9, hD9⟩, hS.F ht⟩) hS.2.2 dJ13_bitCount_95d88_60

set_option maxHeartbeats 4000000 in
set_option maxRecDepth 100000 in
theorem c_X5_fillSources (l : Launch) (dC : Nat → ClassId) (dI : Nat → Nat → Nat) (h0 : Nat) (h1 : Nat) (h0_0 : Int32) (h0_1 : Int64) (h0_2 : Int64) (h0_3 : Nat) (h0_4 : Int64) (h1_1 : Int32) (h1_2 : Nat) (h1_3 : Nat) (h1_4 : Nat) (h1_5 : Nat) (h1_6 : Nat) (h1_7 : Nat) (h1_8 : Nat) (h1_9 : Nat) (h1_10 : Nat) (h1_11 : Nat) (h1_12 : Nat) (a2 : Nat) (p3 : Int32) (sz : Nat) : Met l yX5_fillSources wsX5_fillSources ({ frames := 0, cells := 0, slots := 0, locals := 0 }) (va_Pc [.ref h0, .ref h1, .ref a2, .int p3] (fun U => U.heap.size = sz ∧ va_P (dC, dI) vwCl [(h0, .inr (4, [.int h0_0, .long h0_1, .long h0_2, .ref h0_3, .long h0_4])), (h1, .inr (0, [.int 0, .int h1_1, .ref h1_2, .ref h1_3, .ref h1_4, .ref h1_5, .ref h1_6, .ref h1_7, .ref h1_8, .ref h1_9, .ref h1_10, .ref h1_11, .ref h1_12]))] U.heap ∧ va_K (dC, dI) vwCl [] U ∧ va_D (fun _ => True) [(h0, .inr (4, [.int h0_0, .long h0_1, .long h0_2, .ref h0_3, .long h0_4])), (h1, .inr (0, [.int 0, .int h1_1, .ref h1_2, .ref h1_3, .ref h1_4, .ref h1_5, .ref h1_6, .ref h1_7, .ref h1_8, .ref h1_9, .ref h1_10, .ref h1_11, .ref h1_12]))])) (va_Qv (fun (_ : Unit) => True) (fun (_ : Unit) (t : State) => va_P (dC, dI) vwCl [(h0, .inr (4, [.int h0_0, .long h0_1, .long h0_2, .ref h0_3, .long h0_4])), (h1, .inr (0, [.int 0, .int h1_1, .ref h1_2, .ref h1_3, .ref h1_4, .ref h1_5, .ref h1_6, .ref h1_7, .ref h1_8, .ref h1_9, .ref h1_10, .ref h1_11, .ref h1_12]))] t.heap ∧ va_K (dC, dI) vwCl [] t ∧ va_D (va_A [(h0, .inr (4, [.int h0_0, .long h0_1, .long h0_2, .ref h0_3, .long h0_4])), (h1, .inr (0, [.int 0, .int h1_1, .ref h1_2, .ref h1_3, .ref h1_4, .ref h1_5, .ref h1_6, .ref h1_7, .ref h1_8, .ref h1_9, .ref h1_10, .ref h1_11, .ref h1_12]))] sz) [(h0, .inr (4, [.int h0_0, .long h0_1, .long h0_2, .ref h0_3, .long h0_4])), (h1, .inr (0, [.int 0, .int h1_1, .ref h1_2, .ref h1_3, .ref h1_4, .ref h1_5, .ref h1_6, .ref h1_7, .ref h1_8, .ref h1_9, .ref h1_10, .ref h1_11, .ref h1_12]))]) (va_A [(h0, .inr (4, [.int h0_0, .long h0_1, .long h0_2, .ref h0_3, .long h0_4])), (h1, .inr (0, [.int 0, .int h1_1, .ref h1_2, .ref h1_3, .ref h1_4, .ref h1_5, .ref h1_6, .ref h1_7, .ref h1_8, .ref h1_9, .ref h1_10, .ref h1_11, .ref h1_12]))] sz)) 0 0 (va_A [(h0, .inr (4, [.int h0_0, .long h0_1, .long h0_2, .ref h0_3, .long h0_4])), (h1, .inr (0, [.int 0, .int h1_1, .ref h1_2, .ref h1_3, .ref h1_4, .ref h1_5, .ref h1_6, .ref h1_7, .ref h1_8, .ref h1_9, .ref h1_10, .ref h1_11, .ref h1_12]))] sz) := by
  refine Met.ofW (cc := cX5_fillSources) (maxL := 6) (ret := none) (by decide) rfl ?_
  intro p e s m args below meth c s₁ B hml hv
  obtain ⟨rfl, hsz, hP, hK, hD0⟩ := hv
  have hx := B.exec
  have hb := B.bytes
  have hr := B.returns
  have hts := atoms_spec (ws := wsX5_fillSources) B.pre
  have hown : s.vm.findClass RX5 = some m.cls := findClass_of_methodNamed B.named
  have hlocks := B.notSynchronized
  have inX0_ : ∀ w ∈ wsX00, w ∈ wsX5_fillSources := fun _ h => List.mem_cons_of_mem _ (List.mem_append_left _ (List.mem_append_right _ h))
  subst hsz
  have hD := hD0.self (sz := s.heap.size)
  generalize hAe : va_A [(h0, .inr (4, [.int h0_0, .long h0_1, .long h0_2, .ref h0_3, .long h0_4])), (h1, .inr (0, [.int 0, .int h1_1, .ref h1_2, .ref h1_3, .ref h1_4, .ref h1_5, .ref h1_6, .ref h1_7, .ref h1_8, .ref h1_9, .ref h1_10, .ref h1_11, .ref h1_12]))] s.heap.size = A at hD ⊢
  have hA : ∀ q : Nat, s.heap.size ≤ q → A q := fun q h => by rw [← hAe]; exact Or.inr h
  have hS : va_S A s.heap s.heap [] := va_S.rf
  have hP : va_P (dC, dI) vwCl [(h0, .inr (4, [.int h0_0, .long h0_1, .long h0_2, .ref h0_3, .long h0_4])), (h1, .inr (0, [.int 0, .int h1_1, .ref h1_2, .ref h1_3, .ref h1_4, .ref h1_5, .ref h1_6, .ref h1_7, .ref h1_8, .ref h1_9, .ref h1_10, .ref h1_11, .ref h1_12]))] s.heap := hP
  have hl := lv_entry ([.ref h0, .ref h1, .ref a2, .int p3]) (n := 6) (Nat.le_of_ble_eq_true rfl)
  rw [lg_entry_eq]
  generalize (lg_sl ([.ref h0, .ref h1, .ref a2, .int p3]) ++ List.replicate (6 - (lg_sl ([.ref h0, .ref h1, .ref a2, .int p3])).length) Slot.unset).toArray = ls at hl ⊢
  have hl : lv_has ls 6 [(0, .ref h0), (1, .ref h1), (2, .ref a2), (3, .int p3)] := hl
  refine lv_iconst (v := 0) hx hb dX5_fillSources_0 (by decide) ?_
  refine lv_istore (lv' := [(4, .int 0), (0, .ref h0), (1, .ref h1), (2, .ref a2), (3, .int p3)]) hx hb dX5_fillSources_1 hl (by decide) rfl (fun ls hl => ?_)
  refine lv_iconst (v := 0) hx hb dX5_fillSources_3 (by decide) ?_
  refine lv_istore (lv' := [(5, .int 0), (4, .int 0), (0, .ref h0), (1, .ref h1), (2, .ref a2), (3, .int p3)]) hx hb dX5_fillSources_4 hl (by decide) rfl (fun ls hl => ?_)
  refine lv_iload hx hb dX5_fillSources_6 (lv_at hl 0 rfl) ?_
  refine lv_aload_n hx hb dX5_fillSources_8 rfl (lv_at hl 3 rfl) ?_
  refine va_get (D := (dC, dI)) (ci := 0) (v := .int 0) (C := RX0) (T := TX0) (N := 13) hx hb hts inX0_ hown hK hP 1 rfl rfl 0 (by decide) (hts (.fieldLink RX5 46 "GateWheel$Circuit" "count" "I") (List.mem_of_getElem? (i := 1) rfl)) (fun _ h9 => h9) rfl dX5_fillSources_9 ?_
  refine lv_icmp_ge (tgt := 82) hx hb dX5_fillSources_12 (by decide) (fun _ => ?_) (fun hc => absurd (by decide) hc)
  have hP9 := hP.sub (ws' := [(h0, .inr (4, [.int h0_0, .long h0_1, .long h0_2, .ref h0_3, .long h0_4])), (h1, .inr (0, [.int 0, .int h1_1, .ref h1_2, .ref h1_3, .ref h1_4, .ref h1_5, .ref h1_6, .ref h1_7, .ref h1_8, .ref h1_9, .ref h1_10, .ref h1_11, .ref h1_12]))]) [0, 1] rfl
  have hD9 := hD.sub (ws' := [(h0, .inr (4, [.int h0_0, .long h0_1, .long h0_2, .ref h0_3, .long h0_4])), (h1, .inr (0, [.int 0, .int h1_1, .ref h1_2, .ref h1_3, .ref h1_4, .ref h1_5, .ref h1_6, .ref h1_7, .ref h1_8, .ref h1_9, .ref h1_10, .ref h1_11, .ref h1_12]))]) [0, 1] (by decide) rfl
  have hK9 := hK.sub (tys' := []) [] rfl
  exact W.vret hx hb hr (fun t ht hW => ⟨⟨(), rfl, trivial, by rw [ht]; exact hP9, va_K.moved hW.alike hK9, hD9⟩, hS.F ht⟩) hS.2.2 dX5_fillSources_82

set_option maxHeartbeats 4000000 in
set_option maxRecDepth 100000 in
theorem c_X5_followOthers (l : Launch) (dC : Nat → ClassId) (dI : Nat → Nat → Nat) (h0 : Nat) (h1 : Nat) (h0_0 : Int32) (h0_1 : Int64) (h0_2 : Int64) (h0_3 : Nat) (h0_4 : Int64) (h1_1 : Int32) (h1_2 : Nat) (h1_3 : Nat) (h1_4 : Nat) (h1_5 : Nat) (h1_6 : Nat) (h1_7 : Nat) (h1_8 : Nat) (h1_9 : Nat) (h1_10 : Nat) (h1_11 : Nat) (h1_12 : Nat) (sz : Nat) : Met l yX5_followOthers wsX5_followOthers ({ frames := 0, cells := 0, slots := 0, locals := 0 }) (va_Pc [.ref h0, .ref h1] (fun U => U.heap.size = sz ∧ va_P (dC, dI) vwCl [(h0, .inr (4, [.int h0_0, .long h0_1, .long h0_2, .ref h0_3, .long h0_4])), (h1, .inr (0, [.int 0, .int h1_1, .ref h1_2, .ref h1_3, .ref h1_4, .ref h1_5, .ref h1_6, .ref h1_7, .ref h1_8, .ref h1_9, .ref h1_10, .ref h1_11, .ref h1_12]))] U.heap ∧ va_K (dC, dI) vwCl [] U ∧ va_D (fun _ => True) [(h0, .inr (4, [.int h0_0, .long h0_1, .long h0_2, .ref h0_3, .long h0_4])), (h1, .inr (0, [.int 0, .int h1_1, .ref h1_2, .ref h1_3, .ref h1_4, .ref h1_5, .ref h1_6, .ref h1_7, .ref h1_8, .ref h1_9, .ref h1_10, .ref h1_11, .ref h1_12]))])) (va_Qv (fun (_ : Unit) => True) (fun (_ : Unit) (t : State) => va_P (dC, dI) vwCl [(h0, .inr (4, [.int h0_0, .long h0_1, .long h0_2, .ref h0_3, .long h0_4])), (h1, .inr (0, [.int 0, .int h1_1, .ref h1_2, .ref h1_3, .ref h1_4, .ref h1_5, .ref h1_6, .ref h1_7, .ref h1_8, .ref h1_9, .ref h1_10, .ref h1_11, .ref h1_12]))] t.heap ∧ va_K (dC, dI) vwCl [] t ∧ va_D (va_A [(h0, .inr (4, [.int h0_0, .long h0_1, .long h0_2, .ref h0_3, .long h0_4])), (h1, .inr (0, [.int 0, .int h1_1, .ref h1_2, .ref h1_3, .ref h1_4, .ref h1_5, .ref h1_6, .ref h1_7, .ref h1_8, .ref h1_9, .ref h1_10, .ref h1_11, .ref h1_12]))] sz) [(h0, .inr (4, [.int h0_0, .long h0_1, .long h0_2, .ref h0_3, .long h0_4])), (h1, .inr (0, [.int 0, .int h1_1, .ref h1_2, .ref h1_3, .ref h1_4, .ref h1_5, .ref h1_6, .ref h1_7, .ref h1_8, .ref h1_9, .ref h1_10, .ref h1_11, .ref h1_12]))]) (va_A [(h0, .inr (4, [.int h0_0, .long h0_1, .long h0_2, .ref h0_3, .long h0_4])), (h1, .inr (0, [.int 0, .int h1_1, .ref h1_2, .ref h1_3, .ref h1_4, .ref h1_5, .ref h1_6, .ref h1_7, .ref h1_8, .ref h1_9, .ref h1_10, .ref h1_11, .ref h1_12]))] sz)) 0 0 (va_A [(h0, .inr (4, [.int h0_0, .long h0_1, .long h0_2, .ref h0_3, .long h0_4])), (h1, .inr (0, [.int 0, .int h1_1, .ref h1_2, .ref h1_3, .ref h1_4, .ref h1_5, .ref h1_6, .ref h1_7, .ref h1_8, .ref h1_9, .ref h1_10, .ref h1_11, .ref h1_12]))] sz) := by
  refine Met.ofW (cc := cX5_followOthers) (maxL := 4) (ret := none) (by decide) rfl ?_
  intro p e s m args below meth c s₁ B hml hv
  obtain ⟨rfl, hsz, hP, hK, hD0⟩ := hv
  have hx := B.exec
  have hb := B.bytes
  have hr := B.returns
  have hts := atoms_spec (ws := wsX5_followOthers) B.pre
  have hown : s.vm.findClass RX5 = some m.cls := findClass_of_methodNamed B.named
  have hlocks := B.notSynchronized
  have inX0_ : ∀ w ∈ wsX00, w ∈ wsX5_followOthers := fun _ h => List.mem_cons_of_mem _ (List.mem_append_left _ (List.mem_append_right _ h))
  subst hsz
  have hD := hD0.self (sz := s.heap.size)
  generalize hAe : va_A [(h0, .inr (4, [.int h0_0, .long h0_1, .long h0_2, .ref h0_3, .long h0_4])), (h1, .inr (0, [.int 0, .int h1_1, .ref h1_2, .ref h1_3, .ref h1_4, .ref h1_5, .ref h1_6, .ref h1_7, .ref h1_8, .ref h1_9, .ref h1_10, .ref h1_11, .ref h1_12]))] s.heap.size = A at hD ⊢
  have hA : ∀ q : Nat, s.heap.size ≤ q → A q := fun q h => by rw [← hAe]; exact Or.inr h
  have hS : va_S A s.heap s.heap [] := va_S.rf
  have hP : va_P (dC, dI) vwCl [(h0, .inr (4, [.int h0_0, .long h0_1, .long h0_2, .ref h0_3, .long h0_4])), (h1, .inr (0, [.int 0, .int h1_1, .ref h1_2, .ref h1_3, .ref h1_4, .ref h1_5, .ref h1_6, .ref h1_7, .ref h1_8, .ref h1_9, .ref h1_10, .ref h1_11, .ref h1_12]))] s.heap := hP
  have hl := lv_entry ([.ref h0, .ref h1]) (n := 4) (Nat.le_of_ble_eq_true rfl)
  rw [lg_entry_eq]
  generalize (lg_sl ([.ref h0, .ref h1]) ++ List.replicate (4 - (lg_sl ([.ref h0, .ref h1])).length) Slot.unset).toArray = ls at hl ⊢
  have hl : lv_has ls 4 [(0, .ref h0), (1, .ref h1)] := hl
  refine lv_iconst (v := 0) hx hb dX5_followOthers_0 (by decide) ?_
  refine lv_istore_n (lv' := [(2, .int 0), (0, .ref h0), (1, .ref h1)]) hx hb dX5_followOthers_1 rfl hl (by decide) rfl (fun ls hl => ?_)
  refine lv_iload_n hx hb dX5_followOthers_2 rfl (lv_at hl 0 rfl) ?_
  refine lv_aload_n hx hb dX5_followOthers_3 rfl (lv_at hl 2 rfl) ?_
  refine va_get (D := (dC, dI)) (ci := 0) (v := .int 0) (C := RX0) (T := TX0) (N := 13) hx hb hts inX0_ hown hK hP 1 rfl rfl 0 (by decide) (hts (.fieldLink RX5 46 "GateWheel$Circuit" "count" "I") (List.mem_of_getElem? (i := 1) rfl)) (fun _ h9 => h9) rfl dX5_followOthers_4 ?_
  refine lv_icmp_ge (tgt := 70) hx hb dX5_followOthers_7 (by decide) (fun _ => ?_) (fun hc => absurd (by decide) hc)
  have hP9 := hP.sub (ws' := [(h0, .inr (4, [.int h0_0, .long h0_1, .long h0_2, .ref h0_3, .long h0_4])), (h1, .inr (0, [.int 0, .int h1_1, .ref h1_2, .ref h1_3, .ref h1_4, .ref h1_5, .ref h1_6, .ref h1_7, .ref h1_8, .ref h1_9, .ref h1_10, .ref h1_11, .ref h1_12]))]) [0, 1] rfl
  have hD9 := hD.sub (ws' := [(h0, .inr (4, [.int h0_0, .long h0_1, .long h0_2, .ref h0_3, .long h0_4])), (h1, .inr (0, [.int 0, .int h1_1, .ref h1_2, .ref h1_3, .ref h1_4, .ref h1_5, .ref h1_6, .ref h1_7, .ref h1_8, .ref h1_9, .ref h1_10, .ref h1_11, .ref h1_12]))]) [0, 1] (by decide) rfl
  have hK9 := hK.sub (tys' := []) [] rfl
  exact W.vret hx hb hr (fun t ht hW => ⟨⟨(), rfl, trivial, by rw [ht]; exact hP9, va_K.moved hW.alike hK9, hD9⟩, hS.F ht⟩) hS.2.2 dX5_followOthers_70

set_option maxHeartbeats 4000000 in
set_option maxRecDepth 100000 in
theorem c_X5_collect (l : Launch) (dC : Nat → ClassId) (dI : Nat → Nat → Nat) (h0 : Nat) (h1 : Nat) (h0_1 : Int64) (h0_2 : Int64) (h0_3 : Nat) (h1_1 : Int32) (h1_2 : Nat) (h1_3 : Nat) (h1_4 : Nat) (h1_5 : Nat) (h1_6 : Nat) (h1_7 : Nat) (h1_8 : Nat) (h1_9 : Nat) (h1_10 : Nat) (h1_11 : Nat) (h1_12 : Nat) (sz : Nat) : Met l yX5_collect wsX5_collect ({ frames := 1, cells := 0, slots := 0, locals := 21 }) (va_Pc [.ref h0, .ref h1] (fun U => U.heap.size = sz ∧ va_P (dC, dI) vwCl [(h0, .inr (4, [.int 0, .long h0_1, .long h0_2, .ref h0_3, .long 1])), (h1, .inr (0, [.int 0, .int h1_1, .ref h1_2, .ref h1_3, .ref h1_4, .ref h1_5, .ref h1_6, .ref h1_7, .ref h1_8, .ref h1_9, .ref h1_10, .ref h1_11, .ref h1_12]))] U.heap ∧ va_K (dC, dI) vwCl [] U ∧ va_D (fun _ => True) [(h0, .inr (4, [.int 0, .long h0_1, .long h0_2, .ref h0_3, .long 1])), (h1, .inr (0, [.int 0, .int h1_1, .ref h1_2, .ref h1_3, .ref h1_4, .ref h1_5, .ref h1_6, .ref h1_7, .ref h1_8, .ref h1_9, .ref h1_10, .ref h1_11, .ref h1_12]))])) (va_Qv (fun (_ : Unit) => True) (fun (_ : Unit) (t : State) => va_P (dC, dI) vwCl [(h0, .inr (4, [.int 1, .long h0_1, .long h0_2, .ref h0_3, .long 1])), (h1, .inr (0, [.int 0, .int h1_1, .ref h1_2, .ref h1_3, .ref h1_4, .ref h1_5, .ref h1_6, .ref h1_7, .ref h1_8, .ref h1_9, .ref h1_10, .ref h1_11, .ref h1_12]))] t.heap ∧ va_K (dC, dI) vwCl [] t ∧ va_D (va_A [(h0, .inr (4, [.int 0, .long h0_1, .long h0_2, .ref h0_3, .long 1])), (h1, .inr (0, [.int 0, .int h1_1, .ref h1_2, .ref h1_3, .ref h1_4, .ref h1_5, .ref h1_6, .ref h1_7, .ref h1_8, .ref h1_9, .ref h1_10, .ref h1_11, .ref h1_12]))] sz) [(h0, .inr (4, [.int 1, .long h0_1, .long h0_2, .ref h0_3, .long 1])), (h1, .inr (0, [.int 0, .int h1_1, .ref h1_2, .ref h1_3, .ref h1_4, .ref h1_5, .ref h1_6, .ref h1_7, .ref h1_8, .ref h1_9, .ref h1_10, .ref h1_11, .ref h1_12]))]) (va_A [(h0, .inr (4, [.int 0, .long h0_1, .long h0_2, .ref h0_3, .long 1])), (h1, .inr (0, [.int 0, .int h1_1, .ref h1_2, .ref h1_3, .ref h1_4, .ref h1_5, .ref h1_6, .ref h1_7, .ref h1_8, .ref h1_9, .ref h1_10, .ref h1_11, .ref h1_12]))] sz)) 0 0 (va_A [(h0, .inr (4, [.int 0, .long h0_1, .long h0_2, .ref h0_3, .long 1])), (h1, .inr (0, [.int 0, .int h1_1, .ref h1_2, .ref h1_3, .ref h1_4, .ref h1_5, .ref h1_6, .ref h1_7, .ref h1_8, .ref h1_9, .ref h1_10, .ref h1_11, .ref h1_12]))] sz) := by
  refine Met.ofW (cc := cX5_collect) (maxL := 3) (ret := none) (by decide) rfl ?_
  intro p e s m args below meth c s₁ B hml hv
  obtain ⟨rfl, hsz, hP, hK, hD0⟩ := hv
  have hx := B.exec
  have hb := B.bytes
  have hr := B.returns
  have hts := atoms_spec (ws := wsX5_collect) B.pre
  have hown : s.vm.findClass RX5 = some m.cls := findClass_of_methodNamed B.named
  have hlocks := B.notSynchronized
  have inX0_ : ∀ w ∈ wsX00, w ∈ wsX5_collect := fun _ h => List.mem_cons_of_mem _ (List.mem_append_right _ h)
  have inX5_ : ∀ w ∈ wsX50, w ∈ wsX5_collect := fun _ h => List.mem_cons_of_mem _ (List.mem_append_left _ (List.mem_append_right _ h))
  subst hsz
  have hD := hD0.self (sz := s.heap.size)
  generalize hAe : va_A [(h0, .inr (4, [.int 0, .long h0_1, .long h0_2, .ref h0_3, .long 1])), (h1, .inr (0, [.int 0, .int h1_1, .ref h1_2, .ref h1_3, .ref h1_4, .ref h1_5, .ref h1_6, .ref h1_7, .ref h1_8, .ref h1_9, .ref h1_10, .ref h1_11, .ref h1_12]))] s.heap.size = A at hD ⊢
  have hA : ∀ q : Nat, s.heap.size ≤ q → A q := fun q h => by rw [← hAe]; exact Or.inr h
  have hS : va_S A s.heap s.heap [] := va_S.rf
  have hP : va_P (dC, dI) vwCl [(h0, .inr (4, [.int 0, .long h0_1, .long h0_2, .ref h0_3, .long 1])), (h1, .inr (0, [.int 0, .int h1_1, .ref h1_2, .ref h1_3, .ref h1_4, .ref h1_5, .ref h1_6, .ref h1_7, .ref h1_8, .ref h1_9, .ref h1_10, .ref h1_11, .ref h1_12]))] s.heap := hP
  have hl := lv_entry ([.ref h0, .ref h1]) (n := 3) (Nat.le_of_ble_eq_true rfl)
  rw [lg_entry_eq]
  generalize (lg_sl ([.ref h0, .ref h1]) ++ List.replicate (3 - (lg_sl ([.ref h0, .ref h1])).length) Slot.unset).toArray = ls at hl ⊢
  have hl : lv_has ls 3 [(0, .ref h0), (1, .ref h1)] := hl
  refine lv_aload_n hx hb dX5_collect_0 rfl (lv_at hl 0 rfl) ?_
  refine lv_dup hx hb dX5_collect_1 rfl ?_
  refine va_get (D := (dC, dI)) (ci := 4) (v := .int 0) (C := RX5) (T := TX5) (N := 5) hx hb hts inX5_ hown hK hP 0 rfl rfl 0 (by decide) (hts (.fieldLink RX5 15 "GateWheel$Worlds" "legalCount" "I") (List.mem_of_getElem? (i := 1) rfl)) (fun _ h9 => h9) rfl dX5_collect_2 ?_
  refine lv_aload_n hx hb dX5_collect_5 rfl (lv_at hl 0 rfl) ?_
  refine va_get (D := (dC, dI)) (ci := 4) (v := .long 1) (C := RX5) (T := TX5) (N := 5) hx hb hts inX5_ hown hK hP 0 rfl rfl 4 (by decide) (hts (.fieldLink RX5 28 "GateWheel$Worlds" "legalHere" "J") (List.mem_of_getElem? (i := 2) rfl)) (fun _ h9 => h9) rfl dX5_collect_6 ?_
  have hPc := hP.sub (ws' := []) [] rfl
  have hDc := hD.sub (ws' := []) [] (by decide) rfl
  have hKc := hK.sub (tys' := []) [] rfl
  have hFc := va_free (wc := []) hD hS hA [] rfl
  refine va_calli (va_runS (As := [.long 1]) (rest := [.int 0, .ref h0]) ⟨hx, hb, hml, hown, hts⟩ (c_bitCount l dC dI s.heap.size) (va_cwS 1 hts gX5_collect_J13_bitCount_95d88 rfl rfl rfl (by decide +kernel) ⟨Nat.le_of_ble_eq_true rfl, Nat.le_of_ble_eq_true rfl⟩) ⟨fun a U g mk q => by obtain ⟨q0, q1, qP, qK, qD⟩ := q; exact ⟨q0, q1, qP, va_K.moved (u := U) (U := U.calling g mk a) (Vm.Alike.refl U.vm) qK, qD⟩, fun U hU hW => ⟨rfl, by rw [hU], by rw [hU]; exact hPc, va_K.moved hW.alike hKc, hDc.weaken (fun _ _ _ _ => trivial)⟩⟩ rfl rfl hl.1 rfl (lv_room (Nat.le_of_ble_eq_true rfl)) dX5_collect_9 ⟨Nat.le_of_ble_eq_true rfl, Nat.le_of_ble_eq_true rfl⟩) hS (fun q _ h => hFc q h) hFc (fun rx2 u t Hx1 locs ht hvm hw hB hz1 hk1 hS => ?_)
  obtain ⟨hP1, hK1, hD1⟩ := hB
  rw [ht] at hP1
  have hK1 := va_K.moved hvm.symm hK1
  obtain ⟨hP, hD⟩ := va_join (wr := [(h0, .inr (4, [.int 0, .long h0_1, .long h0_2, .ref h0_3, .long 1])), (h1, .inr (0, [.int 0, .int h1_1, .ref h1_2, .ref h1_3, .ref h1_4, .ref h1_5, .ref h1_6, .ref h1_7, .ref h1_8, .ref h1_9, .ref h1_10, .ref h1_11, .ref h1_12]))]) (w1 := []) hP hD [] [0, 1] rfl rfl (by decide) (by decide) hk1 hFc hP1 hD1
  have hK := (hK.sub (tys' := []) [] rfl).app hK1
  have hP : va_P (dC, dI) vwCl [(h0, .inr (4, [.int 0, .long h0_1, .long h0_2, .ref h0_3, .long 1])), (h1, .inr (0, [.int 0, .int h1_1, .ref h1_2, .ref h1_3, .ref h1_4, .ref h1_5, .ref h1_6, .ref h1_7, .ref h1_8, .ref h1_9, .ref h1_10, .ref h1_11, .ref h1_12]))] Hx1 := hP
  have hD : va_D A [(h0, .inr (4, [.int 0, .long h0_1, .long h0_2, .ref h0_3, .long 1])), (h1, .inr (0, [.int 0, .int h1_1, .ref h1_2, .ref h1_3, .ref h1_4, .ref h1_5, .ref h1_6, .ref h1_7, .ref h1_8, .ref h1_9, .ref h1_10, .ref h1_11, .ref h1_12]))] := hD
  have hK : va_K (dC, dI) vwCl [] s := hK
  obtain rfl : rx2 = 1 := hw
  refine lv_iadd hx hb dX5_collect_12 ?_
  refine lv_topi (fun zx3 ezx3 => ?_)
  obtain rfl : zx3 = 1 := by rw [ezx3]; decide
  refine va_put (D := (dC, dI)) (ci := 4) (v := .int 1) (ty := .int) (C := RX5) (T := TX5) (N := 5) hx hb hts inX5_ tyX5 tyX5_ok nmX5 hown hK hP hD hS 0 rfl rfl 0 (by decide) (hts (.fieldLink RX5 15 "GateWheel$Worlds" "legalCount" "I") (List.mem_of_getElem? (i := 1) rfl)) (fun _ h9 => h9) rfl (by decide +kernel) rfl rfl (Nat.le_of_ble_eq_true rfl) dX5_collect_13 (fun Hx4 locs hP hD hS => ?_)
  have hP : va_P (dC, dI) vwCl [(h0, .inr (4, [.int 1, .long h0_1, .long h0_2, .ref h0_3, .long 1])), (h1, .inr (0, [.int 0, .int h1_1, .ref h1_2, .ref h1_3, .ref h1_4, .ref h1_5, .ref h1_6, .ref h1_7, .ref h1_8, .ref h1_9, .ref h1_10, .ref h1_11, .ref h1_12]))] Hx4 := hP
  have hD : va_D A [(h0, .inr (4, [.int 1, .long h0_1, .long h0_2, .ref h0_3, .long 1])), (h1, .inr (0, [.int 0, .int h1_1, .ref h1_2, .ref h1_3, .ref h1_4, .ref h1_5, .ref h1_6, .ref h1_7, .ref h1_8, .ref h1_9, .ref h1_10, .ref h1_11, .ref h1_12]))] := hD
  refine lv_iconst (v := 0) hx hb dX5_collect_16 (by decide) ?_
  refine lv_istore_n (lv' := [(2, .int 0), (0, .ref h0), (1, .ref h1)]) hx hb dX5_collect_17 rfl hl (by decide) rfl (fun ls hl => ?_)
  refine lv_iload_n hx hb dX5_collect_18 rfl (lv_at hl 0 rfl) ?_
  refine lv_aload_n hx hb dX5_collect_19 rfl (lv_at hl 2 rfl) ?_
  refine va_get (D := (dC, dI)) (ci := 0) (v := .int 0) (C := RX0) (T := TX0) (N := 13) hx hb hts inX0_ hown hK hP 1 rfl rfl 0 (by decide) (hts (.fieldLink RX5 46 "GateWheel$Circuit" "count" "I") (List.mem_of_getElem? (i := 3) rfl)) (fun _ h9 => h9) rfl dX5_collect_20 ?_
  refine lv_icmp_ge (tgt := 92) hx hb dX5_collect_23 (by decide) (fun _ => ?_) (fun hc => absurd (by decide) hc)
  have hP9 := hP.sub (ws' := [(h0, .inr (4, [.int 1, .long h0_1, .long h0_2, .ref h0_3, .long 1])), (h1, .inr (0, [.int 0, .int h1_1, .ref h1_2, .ref h1_3, .ref h1_4, .ref h1_5, .ref h1_6, .ref h1_7, .ref h1_8, .ref h1_9, .ref h1_10, .ref h1_11, .ref h1_12]))]) [0, 1] rfl
  have hD9 := hD.sub (ws' := [(h0, .inr (4, [.int 1, .long h0_1, .long h0_2, .ref h0_3, .long 1])), (h1, .inr (0, [.int 0, .int h1_1, .ref h1_2, .ref h1_3, .ref h1_4, .ref h1_5, .ref h1_6, .ref h1_7, .ref h1_8, .ref h1_9, .ref h1_10, .ref h1_11, .ref h1_12]))]) [0, 1] (by decide) rfl
  have hK9 := hK.sub (tys' := []) [] rfl
  exact W.vret hx hb hr (fun t ht hW => ⟨⟨(), rfl, trivial, by rw [ht]; exact hP9, va_K.moved hW.alike hK9, hD9⟩, hS.F ht⟩) hS.2.2 dX5_collect_92

set_option maxHeartbeats 4000000 in
set_option maxRecDepth 100000 in
theorem c_X5_goThrough (l : Launch) (dC : Nat → ClassId) (dI : Nat → Nat → Nat) (h0 : Nat) (h1 : Nat) (h0_0 : Int32) (h0_1 : Int64) (h0_2 : Int64) (h0_3 : Nat) (h0_4 : Int64) (h1_1 : Int32) (h1_2 : Nat) (h1_3 : Nat) (h1_4 : Nat) (h1_5 : Nat) (h1_6 : Nat) (h1_7 : Nat) (h1_8 : Nat) (h1_9 : Nat) (h1_10 : Nat) (h1_11 : Nat) (h1_12 : Nat) (a2 : Nat) (sz : Nat) : Met l yX5_goThrough wsX5_goThrough ({ frames := 2, cells := 0, slots := 0, locals := 43 }) (va_Pc [.ref h0, .ref h1, .ref a2, .int 0] (fun U => U.heap.size = sz ∧ va_P (dC, dI) vwCl [(h0, .inr (4, [.int h0_0, .long h0_1, .long h0_2, .ref h0_3, .long h0_4])), (h1, .inr (0, [.int 0, .int h1_1, .ref h1_2, .ref h1_3, .ref h1_4, .ref h1_5, .ref h1_6, .ref h1_7, .ref h1_8, .ref h1_9, .ref h1_10, .ref h1_11, .ref h1_12]))] U.heap ∧ va_K (dC, dI) vwCl [] U ∧ va_D (fun _ => True) [(h0, .inr (4, [.int h0_0, .long h0_1, .long h0_2, .ref h0_3, .long h0_4])), (h1, .inr (0, [.int 0, .int h1_1, .ref h1_2, .ref h1_3, .ref h1_4, .ref h1_5, .ref h1_6, .ref h1_7, .ref h1_8, .ref h1_9, .ref h1_10, .ref h1_11, .ref h1_12]))])) (va_Qv (fun (_ : Unit) => True) (fun (_ : Unit) (t : State) => va_P (dC, dI) vwCl [(h0, .inr (4, [.int 1, .long 0, .long 0, .ref h0_3, .long 1])), (h1, .inr (0, [.int 0, .int h1_1, .ref h1_2, .ref h1_3, .ref h1_4, .ref h1_5, .ref h1_6, .ref h1_7, .ref h1_8, .ref h1_9, .ref h1_10, .ref h1_11, .ref h1_12]))] t.heap ∧ va_K (dC, dI) vwCl [] t ∧ va_D (va_A [(h0, .inr (4, [.int h0_0, .long h0_1, .long h0_2, .ref h0_3, .long h0_4])), (h1, .inr (0, [.int 0, .int h1_1, .ref h1_2, .ref h1_3, .ref h1_4, .ref h1_5, .ref h1_6, .ref h1_7, .ref h1_8, .ref h1_9, .ref h1_10, .ref h1_11, .ref h1_12]))] sz) [(h0, .inr (4, [.int 1, .long 0, .long 0, .ref h0_3, .long 1])), (h1, .inr (0, [.int 0, .int h1_1, .ref h1_2, .ref h1_3, .ref h1_4, .ref h1_5, .ref h1_6, .ref h1_7, .ref h1_8, .ref h1_9, .ref h1_10, .ref h1_11, .ref h1_12]))]) (va_A [(h0, .inr (4, [.int h0_0, .long h0_1, .long h0_2, .ref h0_3, .long h0_4])), (h1, .inr (0, [.int 0, .int h1_1, .ref h1_2, .ref h1_3, .ref h1_4, .ref h1_5, .ref h1_6, .ref h1_7, .ref h1_8, .ref h1_9, .ref h1_10, .ref h1_11, .ref h1_12]))] sz)) 0 0 (va_A [(h0, .inr (4, [.int h0_0, .long h0_1, .long h0_2, .ref h0_3, .long h0_4])), (h1, .inr (0, [.int 0, .int h1_1, .ref h1_2, .ref h1_3, .ref h1_4, .ref h1_5, .ref h1_6, .ref h1_7, .ref h1_8, .ref h1_9, .ref h1_10, .ref h1_11, .ref h1_12]))] sz) := by
  refine Met.ofW (cc := cX5_goThrough) (maxL := 8) (ret := none) (by decide) rfl ?_
  intro p e s m args below meth c s₁ B hml hv
  obtain ⟨rfl, hsz, hP, hK, hD0⟩ := hv
  have hx := B.exec
  have hb := B.bytes
  have hr := B.returns
  have hts := atoms_spec (ws := wsX5_goThrough) B.pre
  have hown : s.vm.findClass RX5 = some m.cls := findClass_of_methodNamed B.named
  have hlocks := B.notSynchronized
  have inX5_ : ∀ w ∈ wsX50, w ∈ wsX5_goThrough := fun _ h => List.mem_cons_of_mem _ (List.mem_append_left _ (List.mem_append_right _ h))
  subst hsz
  have hD := hD0.self (sz := s.heap.size)
  generalize hAe : va_A [(h0, .inr (4, [.int h0_0, .long h0_1, .long h0_2, .ref h0_3, .long h0_4])), (h1, .inr (0, [.int 0, .int h1_1, .ref h1_2, .ref h1_3, .ref h1_4, .ref h1_5, .ref h1_6, .ref h1_7, .ref h1_8, .ref h1_9, .ref h1_10, .ref h1_11, .ref h1_12]))] s.heap.size = A at hD ⊢
  have hA : ∀ q : Nat, s.heap.size ≤ q → A q := fun q h => by rw [← hAe]; exact Or.inr h
  have hS : va_S A s.heap s.heap [] := va_S.rf
  have hP : va_P (dC, dI) vwCl [(h0, .inr (4, [.int h0_0, .long h0_1, .long h0_2, .ref h0_3, .long h0_4])), (h1, .inr (0, [.int 0, .int h1_1, .ref h1_2, .ref h1_3, .ref h1_4, .ref h1_5, .ref h1_6, .ref h1_7, .ref h1_8, .ref h1_9, .ref h1_10, .ref h1_11, .ref h1_12]))] s.heap := hP
  have hl := lv_entry ([.ref h0, .ref h1, .ref a2, .int 0]) (n := 8) (Nat.le_of_ble_eq_true rfl)
  rw [lg_entry_eq]
  generalize (lg_sl ([.ref h0, .ref h1, .ref a2, .int 0]) ++ List.replicate (8 - (lg_sl ([.ref h0, .ref h1, .ref a2, .int 0])).length) Slot.unset).toArray = ls at hl ⊢
  have hl : lv_has ls 8 [(0, .ref h0), (1, .ref h1), (2, .ref a2), (3, .int 0)] := hl
  refine lv_aload_n hx hb dX5_goThrough_0 rfl (lv_at hl 0 rfl) ?_
  refine lv_iconst (v := 0) hx hb dX5_goThrough_1 (by decide) ?_
  refine va_put (D := (dC, dI)) (ci := 4) (v := .int 0) (ty := .int) (C := RX5) (T := TX5) (N := 5) hx hb hts inX5_ tyX5 tyX5_ok nmX5 hown hK hP hD hS 0 rfl rfl 0 (by decide) (hts (.fieldLink RX5 15 "GateWheel$Worlds" "legalCount" "I") (List.mem_of_getElem? (i := 1) rfl)) (fun _ h9 => h9) rfl (by decide +kernel) rfl rfl (Nat.le_of_ble_eq_true rfl) dX5_goThrough_2 (fun Hx1 locs hP hD hS => ?_)
  have hP : va_P (dC, dI) vwCl [(h0, .inr (4, [.int 0, .long h0_1, .long h0_2, .ref h0_3, .long h0_4])), (h1, .inr (0, [.int 0, .int h1_1, .ref h1_2, .ref h1_3, .ref h1_4, .ref h1_5, .ref h1_6, .ref h1_7, .ref h1_8, .ref h1_9, .ref h1_10, .ref h1_11, .ref h1_12]))] Hx1 := hP
  have hD : va_D A [(h0, .inr (4, [.int 0, .long h0_1, .long h0_2, .ref h0_3, .long h0_4])), (h1, .inr (0, [.int 0, .int h1_1, .ref h1_2, .ref h1_3, .ref h1_4, .ref h1_5, .ref h1_6, .ref h1_7, .ref h1_8, .ref h1_9, .ref h1_10, .ref h1_11, .ref h1_12]))] := hD
  refine lv_aload_n hx hb dX5_goThrough_5 rfl (lv_at hl 0 rfl) ?_
  refine lv_lconst (v := 0) hx hb dX5_goThrough_6 (by decide) ?_
  refine va_put (D := (dC, dI)) (ci := 4) (v := .long 0) (ty := .long) (C := RX5) (T := TX5) (N := 5) hx hb hts inX5_ tyX5 tyX5_ok nmX5 hown hK hP hD hS 0 rfl rfl 1 (by decide) (hts (.fieldLink RX5 19 "GateWheel$Worlds" "zeros" "J") (List.mem_of_getElem? (i := 2) rfl)) (fun _ h9 => h9) rfl (by decide +kernel) rfl rfl (Nat.le_of_ble_eq_true rfl) dX5_goThrough_7 (fun Hx2 locs hP hD hS => ?_)
  have hP : va_P (dC, dI) vwCl [(h0, .inr (4, [.int 0, .long 0, .long h0_2, .ref h0_3, .long h0_4])), (h1, .inr (0, [.int 0, .int h1_1, .ref h1_2, .ref h1_3, .ref h1_4, .ref h1_5, .ref h1_6, .ref h1_7, .ref h1_8, .ref h1_9, .ref h1_10, .ref h1_11, .ref h1_12]))] Hx2 := hP
  have hD : va_D A [(h0, .inr (4, [.int 0, .long 0, .long h0_2, .ref h0_3, .long h0_4])), (h1, .inr (0, [.int 0, .int h1_1, .ref h1_2, .ref h1_3, .ref h1_4, .ref h1_5, .ref h1_6, .ref h1_7, .ref h1_8, .ref h1_9, .ref h1_10, .ref h1_11, .ref h1_12]))] := hD
  refine lv_aload_n hx hb dX5_goThrough_10 rfl (lv_at hl 0 rfl) ?_
  refine lv_lconst (v := 0) hx hb dX5_goThrough_11 (by decide) ?_
  refine va_put (D := (dC, dI)) (ci := 4) (v := .long 0) (ty := .long) (C := RX5) (T := TX5) (N := 5) hx hb hts inX5_ tyX5 tyX5_ok nmX5 hown hK hP hD hS 0 rfl rfl 2 (by decide) (hts (.fieldLink RX5 23 "GateWheel$Worlds" "ones" "J") (List.mem_of_getElem? (i := 3) rfl)) (fun _ h9 => h9) rfl (by decide +kernel) rfl rfl (Nat.le_of_ble_eq_true rfl) dX5_goThrough_12 (fun Hx3 locs hP hD hS => ?_)
  have hP : va_P (dC, dI) vwCl [(h0, .inr (4, [.int 0, .long 0, .long 0, .ref h0_3, .long h0_4])), (h1, .inr (0, [.int 0, .int h1_1, .ref h1_2, .ref h1_3, .ref h1_4, .ref h1_5, .ref h1_6, .ref h1_7, .ref h1_8, .ref h1_9, .ref h1_10, .ref h1_11, .ref h1_12]))] Hx3 := hP
  have hD : va_D A [(h0, .inr (4, [.int 0, .long 0, .long 0, .ref h0_3, .long h0_4])), (h1, .inr (0, [.int 0, .int h1_1, .ref h1_2, .ref h1_3, .ref h1_4, .ref h1_5, .ref h1_6, .ref h1_7, .ref h1_8, .ref h1_9, .ref h1_10, .ref h1_11, .ref h1_12]))] := hD
  refine lv_iload_n hx hb dX5_goThrough_15 rfl (lv_at hl 3 rfl) ?_
  refine lv_bipush (v := 6) hx hb dX5_goThrough_16 (by decide) ?_
  refine lv_icmp_le (tgt := 30) hx hb dX5_goThrough_18 (by decide) (fun _ => ?_) (fun hc => absurd (by decide) hc)
  refine lv_iconst (v := 1) hx hb dX5_goThrough_30 (by decide) ?_
  refine lv_istore (lv' := [(4, .int 1), (0, .ref h0), (1, .ref h1), (2, .ref a2), (3, .int 0)]) hx hb dX5_goThrough_31 hl (by decide) rfl (fun ls hl => ?_)
  refine lv_iload_n hx hb dX5_goThrough_33 rfl (lv_at hl 4 rfl) ?_
  refine lv_bipush (v := 6) hx hb dX5_goThrough_34 (by decide) ?_
  refine lv_icmp_lt (tgt := 45) hx hb dX5_goThrough_36 (by decide) (fun _ => ?_) (fun hc => absurd (by decide) hc)
  refine lv_lconst (v := 1) hx hb dX5_goThrough_45 (by decide) ?_
  refine lv_iconst (v := 1) hx hb dX5_goThrough_46 (by decide) ?_
  refine lv_iload_n hx hb dX5_goThrough_47 rfl (lv_at hl 4 rfl) ?_
  refine lv_ishl hx hb dX5_goThrough_48 ?_
  refine lv_topi (fun zx4 ezx4 => ?_)
  obtain rfl : zx4 = 1 := by rw [ezx4]; decide
  refine lv_lshl (v := 2) hx hb dX5_goThrough_49 (by decide) ?_
  refine lv_lconst (v := 1) hx hb dX5_goThrough_50 (by decide) ?_
  refine lv_lsub hx hb dX5_goThrough_51 ?_
  refine lv_topl (fun zx5 ezx5 => ?_)
  obtain rfl : zx5 = 1 := by rw [ezx5]; decide
  refine lv_lstore (lv' := [(5, .long 1), (4, .int 1), (0, .ref h0), (1, .ref h1), (2, .ref a2), (3, .int 0)]) hx hb dX5_goThrough_52 hl (by decide) rfl (fun ls hl => ?_)
  refine lv_iconst (v := 0) hx hb dX5_goThrough_54 (by decide) ?_
  refine lv_istore (lv' := [(7, .int 0), (5, .long 1), (4, .int 1), (0, .ref h0), (1, .ref h1), (2, .ref a2), (3, .int 0)]) hx hb dX5_goThrough_55 hl (by decide) rfl (fun ls hl => ?_)
  refine lv_iload hx hb dX5_goThrough_57 (lv_at hl 0 rfl) ?_
  refine lv_iload hx hb dX5_goThrough_59 (lv_at hl 2 rfl) ?_
  refine lv_icmp_ge (tgt := 94) hx hb dX5_goThrough_61 (by decide) (fun hc => absurd hc (by decide)) (fun _ => ?_)
  refine lv_aload_n hx hb dX5_goThrough_64 rfl (lv_at hl 3 rfl) ?_
  refine lv_lload hx hb dX5_goThrough_65 (lv_at hl 1 rfl) ?_
  refine va_put (D := (dC, dI)) (ci := 4) (v := .long 1) (ty := .long) (C := RX5) (T := TX5) (N := 5) hx hb hts inX5_ tyX5 tyX5_ok nmX5 hown hK hP hD hS 0 rfl rfl 4 (by decide) (hts (.fieldLink RX5 28 "GateWheel$Worlds" "legalHere" "J") (List.mem_of_getElem? (i := 5) rfl)) (fun _ h9 => h9) rfl (by decide +kernel) rfl rfl (Nat.le_of_ble_eq_true rfl) dX5_goThrough_67 (fun Hx6 locs hP hD hS => ?_)
  have hP : va_P (dC, dI) vwCl [(h0, .inr (4, [.int 0, .long 0, .long 0, .ref h0_3, .long 1])), (h1, .inr (0, [.int 0, .int h1_1, .ref h1_2, .ref h1_3, .ref h1_4, .ref h1_5, .ref h1_6, .ref h1_7, .ref h1_8, .ref h1_9, .ref h1_10, .ref h1_11, .ref h1_12]))] Hx6 := hP
  have hD : va_D A [(h0, .inr (4, [.int 0, .long 0, .long 0, .ref h0_3, .long 1])), (h1, .inr (0, [.int 0, .int h1_1, .ref h1_2, .ref h1_3, .ref h1_4, .ref h1_5, .ref h1_6, .ref h1_7, .ref h1_8, .ref h1_9, .ref h1_10, .ref h1_11, .ref h1_12]))] := hD
  refine lv_aload_n hx hb dX5_goThrough_70 rfl (lv_at hl 3 rfl) ?_
  refine lv_aload_n hx hb dX5_goThrough_71 rfl (lv_at hl 4 rfl) ?_
  refine lv_aload_n hx hb dX5_goThrough_72 rfl (lv_at hl 5 rfl) ?_
  refine lv_iload hx hb dX5_goThrough_73 (lv_at hl 0 rfl) ?_
  have hPc := hP.sub (ws' := [(h0, .inr (4, [.int 0, .long 0, .long 0, .ref h0_3, .long 1])), (h1, .inr (0, [.int 0, .int h1_1, .ref h1_2, .ref h1_3, .ref h1_4, .ref h1_5, .ref h1_6, .ref h1_7, .ref h1_8, .ref h1_9, .ref h1_10, .ref h1_11, .ref h1_12]))]) [0, 1] rfl
  have hDc := hD.sub (ws' := [(h0, .inr (4, [.int 0, .long 0, .long 0, .ref h0_3, .long 1])), (h1, .inr (0, [.int 0, .int h1_1, .ref h1_2, .ref h1_3, .ref h1_4, .ref h1_5, .ref h1_6, .ref h1_7, .ref h1_8, .ref h1_9, .ref h1_10, .ref h1_11, .ref h1_12]))]) [0, 1] (by decide) rfl
  have hKc := hK.sub (tys' := []) [] rfl
  have hFc := va_free (wc := [(h0, .inr (4, [.int 0, .long 0, .long 0, .ref h0_3, .long 1])), (h1, .inr (0, [.int 0, .int h1_1, .ref h1_2, .ref h1_3, .ref h1_4, .ref h1_5, .ref h1_6, .ref h1_7, .ref h1_8, .ref h1_9, .ref h1_10, .ref h1_11, .ref h1_12]))]) hD hS hA [0, 1] rfl
  refine va_callv (va_runV (As := [.ref h1, .ref a2, .int 0]) (rest := []) ⟨hx, hb, hml, hown, hts⟩ (c_X5_fillSources l dC dI h0 h1 0 0 0 h0_3 1 h1_1 h1_2 h1_3 h1_4 h1_5 h1_6 h1_7 h1_8 h1_9 h1_10 h1_11 h1_12 a2 0 Hx6.size) (cwV 3 hts gX5_goThrough_X5_fillSources rfl rfl rfl (by decide +kernel) ⟨Nat.le_of_ble_eq_true rfl, Nat.le_of_ble_eq_true rfl⟩) ⟨fun a U g mk q => by obtain ⟨q0, q1, qP, qK, qD⟩ := q; exact ⟨q0, q1, qP, va_K.moved (u := U) (U := U.calling g mk a) (Vm.Alike.refl U.vm) qK, qD⟩, va_recv hKc hPc (ci := 4) (q0 := 0) rfl rfl, fun U hU hW => ⟨rfl, by rw [hU], by rw [hU]; exact hPc, va_K.moved hW.alike hKc, hDc.weaken (fun _ _ _ _ => trivial)⟩⟩ rfl rfl hl.1 rfl (lv_room (Nat.le_of_ble_eq_true rfl)) dX5_goThrough_75 ⟨Nat.le_of_ble_eq_true rfl, Nat.le_of_ble_eq_true rfl⟩) hS (fun q _ h => hFc q h) hFc (fun u t Hx7 locs ht hvm hw hB hz1 hk1 hS => ?_)
  obtain ⟨hP1, hK1, hD1⟩ := hB
  rw [ht] at hP1
  have hK1 := va_K.moved hvm.symm hK1
  obtain ⟨hP, hD⟩ := va_join (wr := []) (w1 := [(h0, .inr (4, [.int 0, .long 0, .long 0, .ref h0_3, .long 1])), (h1, .inr (0, [.int 0, .int h1_1, .ref h1_2, .ref h1_3, .ref h1_4, .ref h1_5, .ref h1_6, .ref h1_7, .ref h1_8, .ref h1_9, .ref h1_10, .ref h1_11, .ref h1_12]))]) hP hD [0, 1] [] rfl rfl (by decide) (by decide) hk1 hFc hP1 hD1
  have hK := (hK.sub (tys' := []) [] rfl).app hK1
  have hP : va_P (dC, dI) vwCl [(h0, .inr (4, [.int 0, .long 0, .long 0, .ref h0_3, .long 1])), (h1, .inr (0, [.int 0, .int h1_1, .ref h1_2, .ref h1_3, .ref h1_4, .ref h1_5, .ref h1_6, .ref h1_7, .ref h1_8, .ref h1_9, .ref h1_10, .ref h1_11, .ref h1_12]))] Hx7 := hP
  have hD : va_D A [(h0, .inr (4, [.int 0, .long 0, .long 0, .ref h0_3, .long 1])), (h1, .inr (0, [.int 0, .int h1_1, .ref h1_2, .ref h1_3, .ref h1_4, .ref h1_5, .ref h1_6, .ref h1_7, .ref h1_8, .ref h1_9, .ref h1_10, .ref h1_11, .ref h1_12]))] := hD
  have hK : va_K (dC, dI) vwCl [] s := hK
  refine lv_aload_n hx hb dX5_goThrough_78 rfl (lv_at hl 3 rfl) ?_
  refine lv_aload_n hx hb dX5_goThrough_79 rfl (lv_at hl 4 rfl) ?_
  have hPc := hP.sub (ws' := [(h0, .inr (4, [.int 0, .long 0, .long 0, .ref h0_3, .long 1])), (h1, .inr (0, [.int 0, .int h1_1, .ref h1_2, .ref h1_3, .ref h1_4, .ref h1_5, .ref h1_6, .ref h1_7, .ref h1_8, .ref h1_9, .ref h1_10, .ref h1_11, .ref h1_12]))]) [0, 1] rfl
  have hDc := hD.sub (ws' := [(h0, .inr (4, [.int 0, .long 0, .long 0, .ref h0_3, .long 1])), (h1, .inr (0, [.int 0, .int h1_1, .ref h1_2, .ref h1_3, .ref h1_4, .ref h1_5, .ref h1_6, .ref h1_7, .ref h1_8, .ref h1_9, .ref h1_10, .ref h1_11, .ref h1_12]))]) [0, 1] (by decide) rfl
  have hKc := hK.sub (tys' := []) [] rfl
  have hFc := va_free (wc := [(h0, .inr (4, [.int 0, .long 0, .long 0, .ref h0_3, .long 1])), (h1, .inr (0, [.int 0, .int h1_1, .ref h1_2, .ref h1_3, .ref h1_4, .ref h1_5, .ref h1_6, .ref h1_7, .ref h1_8, .ref h1_9, .ref h1_10, .ref h1_11, .ref h1_12]))]) hD hS hA [0, 1] rfl
  refine va_callv (va_runV (As := [.ref h1]) (rest := []) ⟨hx, hb, hml, hown, hts⟩ (c_X5_followOthers l dC dI h0 h1 0 0 0 h0_3 1 h1_1 h1_2 h1_3 h1_4 h1_5 h1_6 h1_7 h1_8 h1_9 h1_10 h1_11 h1_12 Hx7.size) (cwV 1 hts gX5_goThrough_X5_followOthers rfl rfl rfl (by decide +kernel) ⟨Nat.le_of_ble_eq_true rfl, Nat.le_of_ble_eq_true rfl⟩) ⟨fun a U g mk q => by obtain ⟨q0, q1, qP, qK, qD⟩ := q; exact ⟨q0, q1, qP, va_K.moved (u := U) (U := U.calling g mk a) (Vm.Alike.refl U.vm) qK, qD⟩, va_recv hKc hPc (ci := 4) (q0 := 0) rfl rfl, fun U hU hW => ⟨rfl, by rw [hU], by rw [hU]; exact hPc, va_K.moved hW.alike hKc, hDc.weaken (fun _ _ _ _ => trivial)⟩⟩ rfl rfl hl.1 rfl (lv_room (Nat.le_of_ble_eq_true rfl)) dX5_goThrough_80 ⟨Nat.le_of_ble_eq_true rfl, Nat.le_of_ble_eq_true rfl⟩) hS (fun q _ h => hFc q h) hFc (fun u t Hx9 locs ht hvm hw hB hz1 hk1 hS => ?_)
  obtain ⟨hP1, hK1, hD1⟩ := hB
  rw [ht] at hP1
  have hK1 := va_K.moved hvm.symm hK1
  obtain ⟨hP, hD⟩ := va_join (wr := []) (w1 := [(h0, .inr (4, [.int 0, .long 0, .long 0, .ref h0_3, .long 1])), (h1, .inr (0, [.int 0, .int h1_1, .ref h1_2, .ref h1_3, .ref h1_4, .ref h1_5, .ref h1_6, .ref h1_7, .ref h1_8, .ref h1_9, .ref h1_10, .ref h1_11, .ref h1_12]))]) hP hD [0, 1] [] rfl rfl (by decide) (by decide) hk1 hFc hP1 hD1
  have hK := (hK.sub (tys' := []) [] rfl).app hK1
  have hP : va_P (dC, dI) vwCl [(h0, .inr (4, [.int 0, .long 0, .long 0, .ref h0_3, .long 1])), (h1, .inr (0, [.int 0, .int h1_1, .ref h1_2, .ref h1_3, .ref h1_4, .ref h1_5, .ref h1_6, .ref h1_7, .ref h1_8, .ref h1_9, .ref h1_10, .ref h1_11, .ref h1_12]))] Hx9 := hP
  have hD : va_D A [(h0, .inr (4, [.int 0, .long 0, .long 0, .ref h0_3, .long 1])), (h1, .inr (0, [.int 0, .int h1_1, .ref h1_2, .ref h1_3, .ref h1_4, .ref h1_5, .ref h1_6, .ref h1_7, .ref h1_8, .ref h1_9, .ref h1_10, .ref h1_11, .ref h1_12]))] := hD
  have hK : va_K (dC, dI) vwCl [] s := hK
  refine lv_aload_n hx hb dX5_goThrough_83 rfl (lv_at hl 3 rfl) ?_
  refine lv_aload_n hx hb dX5_goThrough_84 rfl (lv_at hl 4 rfl) ?_
  have hPc := hP.sub (ws' := [(h0, .inr (4, [.int 0, .long 0, .long 0, .ref h0_3, .long 1])), (h1, .inr (0, [.int 0, .int h1_1, .ref h1_2, .ref h1_3, .ref h1_4, .ref h1_5, .ref h1_6, .ref h1_7, .ref h1_8, .ref h1_9, .ref h1_10, .ref h1_11, .ref h1_12]))]) [0, 1] rfl
  have hDc := hD.sub (ws' := [(h0, .inr (4, [.int 0, .long 0, .long 0, .ref h0_3, .long 1])), (h1, .inr (0, [.int 0, .int h1_1, .ref h1_2, .ref h1_3, .ref h1_4, .ref h1_5, .ref h1_6, .ref h1_7, .ref h1_8, .ref h1_9, .ref h1_10, .ref h1_11, .ref h1_12]))]) [0, 1] (by decide) rfl
  have hKc := hK.sub (tys' := []) [] rfl
  have hFc := va_free (wc := [(h0, .inr (4, [.int 0, .long 0, .long 0, .ref h0_3, .long 1])), (h1, .inr (0, [.int 0, .int h1_1, .ref h1_2, .ref h1_3, .ref h1_4, .ref h1_5, .ref h1_6, .ref h1_7, .ref h1_8, .ref h1_9, .ref h1_10, .ref h1_11, .ref h1_12]))]) hD hS hA [0, 1] rfl
  refine va_callv (va_runV (As := [.ref h1]) (rest := []) ⟨hx, hb, hml, hown, hts⟩ (c_X5_collect l dC dI h0 h1 0 0 h0_3 h1_1 h1_2 h1_3 h1_4 h1_5 h1_6 h1_7 h1_8 h1_9 h1_10 h1_11 h1_12 Hx9.size) (cwV 1 hts gX5_goThrough_X5_collect rfl rfl rfl (by decide +kernel) ⟨Nat.le_of_ble_eq_true rfl, Nat.le_of_ble_eq_true rfl⟩) ⟨fun a U g mk q => by obtain ⟨q0, q1, qP, qK, qD⟩ := q; exact ⟨q0, q1, qP, va_K.moved (u := U) (U := U.calling g mk a) (Vm.Alike.refl U.vm) qK, qD⟩, va_recv hKc hPc (ci := 4) (q0 := 0) rfl rfl, fun U hU hW => ⟨rfl, by rw [hU], by rw [hU]; exact hPc, va_K.moved hW.alike hKc, hDc.weaken (fun _ _ _ _ => trivial)⟩⟩ rfl rfl hl.1 rfl (lv_room (Nat.le_of_ble_eq_true rfl)) dX5_goThrough_85 ⟨Nat.le_of_ble_eq_true rfl, Nat.le_of_ble_eq_true rfl⟩) hS (fun q _ h => hFc q h) hFc (fun u t Hx11 locs ht hvm hw hB hz1 hk1 hS => ?_)
  obtain ⟨hP1, hK1, hD1⟩ := hB
  rw [ht] at hP1
  have hK1 := va_K.moved hvm.symm hK1
  obtain ⟨hP, hD⟩ := va_join (wr := []) (w1 := [(h0, .inr (4, [.int 1, .long 0, .long 0, .ref h0_3, .long 1])), (h1, .inr (0, [.int 0, .int h1_1, .ref h1_2, .ref h1_3, .ref h1_4, .ref h1_5, .ref h1_6, .ref h1_7, .ref h1_8, .ref h1_9, .ref h1_10, .ref h1_11, .ref h1_12]))]) hP hD [0, 1] [] rfl rfl (by decide) (by decide) hk1 hFc hP1 hD1
  have hK := (hK.sub (tys' := []) [] rfl).app hK1
  have hP : va_P (dC, dI) vwCl [(h0, .inr (4, [.int 1, .long 0, .long 0, .ref h0_3, .long 1])), (h1, .inr (0, [.int 0, .int h1_1, .ref h1_2, .ref h1_3, .ref h1_4, .ref h1_5, .ref h1_6, .ref h1_7, .ref h1_8, .ref h1_9, .ref h1_10, .ref h1_11, .ref h1_12]))] Hx11 := hP
  have hD : va_D A [(h0, .inr (4, [.int 1, .long 0, .long 0, .ref h0_3, .long 1])), (h1, .inr (0, [.int 0, .int h1_1, .ref h1_2, .ref h1_3, .ref h1_4, .ref h1_5, .ref h1_6, .ref h1_7, .ref h1_8, .ref h1_9, .ref h1_10, .ref h1_11, .ref h1_12]))] := hD
  have hK : va_K (dC, dI) vwCl [] s := hK
  refine lv_iinc (v := 1) (lv' := [(7, .int 1), (5, .long 1), (4, .int 1), (0, .ref h0), (1, .ref h1), (2, .ref a2), (3, .int 0)]) hx hb dX5_goThrough_88 hl (k := 0) rfl (by decide) (by decide) rfl (fun ls hl => ?_)
  refine lv_goto (tgt := 57) hx hb dX5_goThrough_91 (by decide) ?_
  refine lv_iload hx hb dX5_goThrough_57 (lv_at hl 0 rfl) ?_
  refine lv_iload hx hb dX5_goThrough_59 (lv_at hl 2 rfl) ?_
  refine lv_icmp_ge (tgt := 94) hx hb dX5_goThrough_61 (by decide) (fun _ => ?_) (fun hc => absurd (by decide) hc)
  have hP9 := hP.sub (ws' := [(h0, .inr (4, [.int 1, .long 0, .long 0, .ref h0_3, .long 1])), (h1, .inr (0, [.int 0, .int h1_1, .ref h1_2, .ref h1_3, .ref h1_4, .ref h1_5, .ref h1_6, .ref h1_7, .ref h1_8, .ref h1_9, .ref h1_10, .ref h1_11, .ref h1_12]))]) [0, 1] rfl
  have hD9 := hD.sub (ws' := [(h0, .inr (4, [.int 1, .long 0, .long 0, .ref h0_3, .long 1])), (h1, .inr (0, [.int 0, .int h1_1, .ref h1_2, .ref h1_3, .ref h1_4, .ref h1_5, .ref h1_6, .ref h1_7, .ref h1_8, .ref h1_9, .ref h1_10, .ref h1_11, .ref h1_12]))]) [0, 1] (by decide) rfl
  have hK9 := hK.sub (tys' := []) [] rfl
  exact W.vret hx hb hr (fun t ht hW => ⟨⟨(), rfl, trivial, by rw [ht]; exact hP9, va_K.moved hW.alike hK9, hD9⟩, hS.F ht⟩) hS.2.2 dX5_goThrough_94

set_option maxHeartbeats 4000000 in
set_option maxRecDepth 100000 in
theorem c_X4_begin (l : Launch) (dC : Nat → ClassId) (dI : Nat → Nat → Nat) (h0 : Nat) (h1 : Nat) (h0_0 : Int32) (h0_1 : Int32) (h0_2 : Nat) (h0_3 : Nat) (h0_4 : Nat) (h0_5 : Nat) (h0_6 : Nat) (h0_7 : Int64) (h1_1 : Int32) (h1_2 : Nat) (h1_3 : Nat) (h1_4 : Nat) (h1_5 : Nat) (h1_6 : Nat) (h1_7 : Nat) (h1_8 : Nat) (h1_9 : Nat) (h1_10 : Nat) (h1_11 : Nat) (h1_12 : Nat) (a2 : Nat) (sz : Nat) : Met l yX4_begin wsX4_begin ({ frames := 0, cells := 0, slots := 0, locals := 0 }) (va_Pc [.ref h0, .ref h1, .ref a2] (fun U => U.heap.size = sz ∧ va_P (dC, dI) vwCl [(h0, .inr (3, [.int h0_0, .int h0_1, .ref h0_2, .ref h0_3, .ref h0_4, .ref h0_5, .ref h0_6, .long h0_7])), (h1, .inr (0, [.int 0, .int h1_1, .ref h1_2, .ref h1_3, .ref h1_4, .ref h1_5, .ref h1_6, .ref h1_7, .ref h1_8, .ref h1_9, .ref h1_10, .ref h1_11, .ref h1_12]))] U.heap ∧ va_K (dC, dI) vwCl [] U ∧ va_D (fun _ => True) [(h0, .inr (3, [.int h0_0, .int h0_1, .ref h0_2, .ref h0_3, .ref h0_4, .ref h0_5, .ref h0_6, .long h0_7])), (h1, .inr (0, [.int 0, .int h1_1, .ref h1_2, .ref h1_3, .ref h1_4, .ref h1_5, .ref h1_6, .ref h1_7, .ref h1_8, .ref h1_9, .ref h1_10, .ref h1_11, .ref h1_12]))])) (va_Qv (fun (_ : Unit) => True) (fun (_ : Unit) (t : State) => va_P (dC, dI) vwCl [(h0, .inr (3, [.int 0, .int 0, .ref h0_2, .ref h0_3, .ref h0_4, .ref h0_5, .ref h0_6, .long 0])), (h1, .inr (0, [.int 0, .int h1_1, .ref h1_2, .ref h1_3, .ref h1_4, .ref h1_5, .ref h1_6, .ref h1_7, .ref h1_8, .ref h1_9, .ref h1_10, .ref h1_11, .ref h1_12]))] t.heap ∧ va_K (dC, dI) vwCl [] t ∧ va_D (va_A [(h0, .inr (3, [.int h0_0, .int h0_1, .ref h0_2, .ref h0_3, .ref h0_4, .ref h0_5, .ref h0_6, .long h0_7])), (h1, .inr (0, [.int 0, .int h1_1, .ref h1_2, .ref h1_3, .ref h1_4, .ref h1_5, .ref h1_6, .ref h1_7, .ref h1_8, .ref h1_9, .ref h1_10, .ref h1_11, .ref h1_12]))] sz) [(h0, .inr (3, [.int 0, .int 0, .ref h0_2, .ref h0_3, .ref h0_4, .ref h0_5, .ref h0_6, .long 0])), (h1, .inr (0, [.int 0, .int h1_1, .ref h1_2, .ref h1_3, .ref h1_4, .ref h1_5, .ref h1_6, .ref h1_7, .ref h1_8, .ref h1_9, .ref h1_10, .ref h1_11, .ref h1_12]))]) (va_A [(h0, .inr (3, [.int h0_0, .int h0_1, .ref h0_2, .ref h0_3, .ref h0_4, .ref h0_5, .ref h0_6, .long h0_7])), (h1, .inr (0, [.int 0, .int h1_1, .ref h1_2, .ref h1_3, .ref h1_4, .ref h1_5, .ref h1_6, .ref h1_7, .ref h1_8, .ref h1_9, .ref h1_10, .ref h1_11, .ref h1_12]))] sz)) 0 0 (va_A [(h0, .inr (3, [.int h0_0, .int h0_1, .ref h0_2, .ref h0_3, .ref h0_4, .ref h0_5, .ref h0_6, .long h0_7])), (h1, .inr (0, [.int 0, .int h1_1, .ref h1_2, .ref h1_3, .ref h1_4, .ref h1_5, .ref h1_6, .ref h1_7, .ref h1_8, .ref h1_9, .ref h1_10, .ref h1_11, .ref h1_12]))] sz) := by
  refine Met.ofW (cc := cX4_begin) (maxL := 4) (ret := none) (by decide) rfl ?_
  intro p e s m args below meth c s₁ B hml hv
  obtain ⟨rfl, hsz, hP, hK, hD0⟩ := hv
  have hx := B.exec
  have hb := B.bytes
  have hr := B.returns
  have hts := atoms_spec (ws := wsX4_begin) B.pre
  have hown : s.vm.findClass RX4 = some m.cls := findClass_of_methodNamed B.named
  have hlocks := B.notSynchronized
  have inX0_ : ∀ w ∈ wsX00, w ∈ wsX4_begin := fun _ h => List.mem_cons_of_mem _ (List.mem_append_right _ h)
  have inX4_ : ∀ w ∈ wsX40, w ∈ wsX4_begin := fun _ h => List.mem_cons_of_mem _ (List.mem_append_left _ (List.mem_append_right _ h))
  subst hsz
  have hD := hD0.self (sz := s.heap.size)
  generalize hAe : va_A [(h0, .inr (3, [.int h0_0, .int h0_1, .ref h0_2, .ref h0_3, .ref h0_4, .ref h0_5, .ref h0_6, .long h0_7])), (h1, .inr (0, [.int 0, .int h1_1, .ref h1_2, .ref h1_3, .ref h1_4, .ref h1_5, .ref h1_6, .ref h1_7, .ref h1_8, .ref h1_9, .ref h1_10, .ref h1_11, .ref h1_12]))] s.heap.size = A at hD ⊢
  have hA : ∀ q : Nat, s.heap.size ≤ q → A q := fun q h => by rw [← hAe]; exact Or.inr h
  have hS : va_S A s.heap s.heap [] := va_S.rf
  have hP : va_P (dC, dI) vwCl [(h0, .inr (3, [.int h0_0, .int h0_1, .ref h0_2, .ref h0_3, .ref h0_4, .ref h0_5, .ref h0_6, .long h0_7])), (h1, .inr (0, [.int 0, .int h1_1, .ref h1_2, .ref h1_3, .ref h1_4, .ref h1_5, .ref h1_6, .ref h1_7, .ref h1_8, .ref h1_9, .ref h1_10, .ref h1_11, .ref h1_12]))] s.heap := hP
  have hl := lv_entry ([.ref h0, .ref h1, .ref a2]) (n := 4) (Nat.le_of_ble_eq_true rfl)
  rw [lg_entry_eq]
  generalize (lg_sl ([.ref h0, .ref h1, .ref a2]) ++ List.replicate (4 - (lg_sl ([.ref h0, .ref h1, .ref a2])).length) Slot.unset).toArray = ls at hl ⊢
  have hl : lv_has ls 4 [(0, .ref h0), (1, .ref h1), (2, .ref a2)] := hl
  refine lv_aload_n hx hb dX4_begin_0 rfl (lv_at hl 0 rfl) ?_
  refine lv_iconst (v := 0) hx hb dX4_begin_1 (by decide) ?_
  refine va_put (D := (dC, dI)) (ci := 3) (v := .int 0) (ty := .int) (C := RX4) (T := TX4) (N := 8) hx hb hts inX4_ tyX4 tyX4_ok nmX4 hown hK hP hD hS 0 rfl rfl 0 (by decide) (hts (.fieldLink RX4 27 "GateWheel$Wheel" "time" "I") (List.mem_of_getElem? (i := 1) rfl)) (fun _ h9 => h9) rfl (by decide +kernel) rfl rfl (Nat.le_of_ble_eq_true rfl) dX4_begin_2 (fun Hx1 locs hP hD hS => ?_)
  have hP : va_P (dC, dI) vwCl [(h0, .inr (3, [.int 0, .int h0_1, .ref h0_2, .ref h0_3, .ref h0_4, .ref h0_5, .ref h0_6, .long h0_7])), (h1, .inr (0, [.int 0, .int h1_1, .ref h1_2, .ref h1_3, .ref h1_4, .ref h1_5, .ref h1_6, .ref h1_7, .ref h1_8, .ref h1_9, .ref h1_10, .ref h1_11, .ref h1_12]))] Hx1 := hP
  have hD : va_D A [(h0, .inr (3, [.int 0, .int h0_1, .ref h0_2, .ref h0_3, .ref h0_4, .ref h0_5, .ref h0_6, .long h0_7])), (h1, .inr (0, [.int 0, .int h1_1, .ref h1_2, .ref h1_3, .ref h1_4, .ref h1_5, .ref h1_6, .ref h1_7, .ref h1_8, .ref h1_9, .ref h1_10, .ref h1_11, .ref h1_12]))] := hD
  refine lv_aload_n hx hb dX4_begin_5 rfl (lv_at hl 0 rfl) ?_
  refine lv_iconst (v := 0) hx hb dX4_begin_6 (by decide) ?_
  refine va_put (D := (dC, dI)) (ci := 3) (v := .int 0) (ty := .int) (C := RX4) (T := TX4) (N := 8) hx hb hts inX4_ tyX4 tyX4_ok nmX4 hown hK hP hD hS 0 rfl rfl 1 (by decide) (hts (.fieldLink RX4 31 "GateWheel$Wheel" "toCome" "I") (List.mem_of_getElem? (i := 2) rfl)) (fun _ h9 => h9) rfl (by decide +kernel) rfl rfl (Nat.le_of_ble_eq_true rfl) dX4_begin_7 (fun Hx2 locs hP hD hS => ?_)
  have hP : va_P (dC, dI) vwCl [(h0, .inr (3, [.int 0, .int 0, .ref h0_2, .ref h0_3, .ref h0_4, .ref h0_5, .ref h0_6, .long h0_7])), (h1, .inr (0, [.int 0, .int h1_1, .ref h1_2, .ref h1_3, .ref h1_4, .ref h1_5, .ref h1_6, .ref h1_7, .ref h1_8, .ref h1_9, .ref h1_10, .ref h1_11, .ref h1_12]))] Hx2 := hP
  have hD : va_D A [(h0, .inr (3, [.int 0, .int 0, .ref h0_2, .ref h0_3, .ref h0_4, .ref h0_5, .ref h0_6, .long h0_7])), (h1, .inr (0, [.int 0, .int h1_1, .ref h1_2, .ref h1_3, .ref h1_4, .ref h1_5, .ref h1_6, .ref h1_7, .ref h1_8, .ref h1_9, .ref h1_10, .ref h1_11, .ref h1_12]))] := hD
  refine lv_aload_n hx hb dX4_begin_10 rfl (lv_at hl 0 rfl) ?_
  refine lv_lconst (v := 0) hx hb dX4_begin_11 (by decide) ?_
  refine va_put (D := (dC, dI)) (ci := 3) (v := .long 0) (ty := .long) (C := RX4) (T := TX4) (N := 8) hx hb hts inX4_ tyX4 tyX4_ok nmX4 hown hK hP hD hS 0 rfl rfl 7 (by decide) (hts (.fieldLink RX4 34 "GateWheel$Wheel" "changed" "J") (List.mem_of_getElem? (i := 3) rfl)) (fun _ h9 => h9) rfl (by decide +kernel) rfl rfl (Nat.le_of_ble_eq_true rfl) dX4_begin_12 (fun Hx3 locs hP hD hS => ?_)
  have hP : va_P (dC, dI) vwCl [(h0, .inr (3, [.int 0, .int 0, .ref h0_2, .ref h0_3, .ref h0_4, .ref h0_5, .ref h0_6, .long 0])), (h1, .inr (0, [.int 0, .int h1_1, .ref h1_2, .ref h1_3, .ref h1_4, .ref h1_5, .ref h1_6, .ref h1_7, .ref h1_8, .ref h1_9, .ref h1_10, .ref h1_11, .ref h1_12]))] Hx3 := hP
  have hD : va_D A [(h0, .inr (3, [.int 0, .int 0, .ref h0_2, .ref h0_3, .ref h0_4, .ref h0_5, .ref h0_6, .long 0])), (h1, .inr (0, [.int 0, .int h1_1, .ref h1_2, .ref h1_3, .ref h1_4, .ref h1_5, .ref h1_6, .ref h1_7, .ref h1_8, .ref h1_9, .ref h1_10, .ref h1_11, .ref h1_12]))] := hD
  refine lv_iconst (v := 0) hx hb dX4_begin_15 (by decide) ?_
  refine lv_istore_n (lv' := [(3, .int 0), (0, .ref h0), (1, .ref h1), (2, .ref a2)]) hx hb dX4_begin_16 rfl hl (by decide) rfl (fun ls hl => ?_)
  refine lv_iload_n hx hb dX4_begin_17 rfl (lv_at hl 0 rfl) ?_
  refine lv_aload_n hx hb dX4_begin_18 rfl (lv_at hl 2 rfl) ?_
  refine va_get (D := (dC, dI)) (ci := 0) (v := .int 0) (C := RX0) (T := TX0) (N := 13) hx hb hts inX0_ hown hK hP 1 rfl rfl 0 (by decide) (hts (.fieldLink RX4 38 "GateWheel$Circuit" "count" "I") (List.mem_of_getElem? (i := 4) rfl)) (fun _ h9 => h9) rfl dX4_begin_19 ?_
  refine lv_icmp_ge (tgt := 56) hx hb dX4_begin_22 (by decide) (fun _ => ?_) (fun hc => absurd (by decide) hc)
  refine lv_iconst (v := 0) hx hb dX4_begin_56 (by decide) ?_
  refine lv_istore_n (lv' := [(3, .int 0), (0, .ref h0), (1, .ref h1), (2, .ref a2)]) hx hb dX4_begin_57 rfl hl (by decide) rfl (fun ls hl => ?_)
  refine lv_iload_n hx hb dX4_begin_58 rfl (lv_at hl 0 rfl) ?_
  refine lv_aload_n hx hb dX4_begin_59 rfl (lv_at hl 2 rfl) ?_
  refine va_get (D := (dC, dI)) (ci := 0) (v := .int 0) (C := RX0) (T := TX0) (N := 13) hx hb hts inX0_ hown hK hP 1 rfl rfl 0 (by decide) (hts (.fieldLink RX4 38 "GateWheel$Circuit" "count" "I") (List.mem_of_getElem? (i := 4) rfl)) (fun _ h9 => h9) rfl dX4_begin_60 ?_
  refine lv_bipush (v := 10) hx hb dX4_begin_63 (by decide) ?_
  refine lv_imul hx hb dX4_begin_65 ?_
  refine lv_topi (fun zx4 ezx4 => ?_)
  obtain rfl : zx4 = 0 := by rw [ezx4]; decide
  refine lv_icmp_ge (tgt := 82) hx hb dX4_begin_66 (by decide) (fun _ => ?_) (fun hc => absurd (by decide) hc)
  have hP9 := hP.sub (ws' := [(h0, .inr (3, [.int 0, .int 0, .ref h0_2, .ref h0_3, .ref h0_4, .ref h0_5, .ref h0_6, .long 0])), (h1, .inr (0, [.int 0, .int h1_1, .ref h1_2, .ref h1_3, .ref h1_4, .ref h1_5, .ref h1_6, .ref h1_7, .ref h1_8, .ref h1_9, .ref h1_10, .ref h1_11, .ref h1_12]))]) [0, 1] rfl
  have hD9 := hD.sub (ws' := [(h0, .inr (3, [.int 0, .int 0, .ref h0_2, .ref h0_3, .ref h0_4, .ref h0_5, .ref h0_6, .long 0])), (h1, .inr (0, [.int 0, .int h1_1, .ref h1_2, .ref h1_3, .ref h1_4, .ref h1_5, .ref h1_6, .ref h1_7, .ref h1_8, .ref h1_9, .ref h1_10, .ref h1_11, .ref h1_12]))]) [0, 1] (by decide) rfl
  have hK9 := hK.sub (tys' := []) [] rfl
  exact W.vret hx hb hr (fun t ht hW => ⟨⟨(), rfl, trivial, by rw [ht]; exact hP9, va_K.moved hW.alike hK9, hD9⟩, hS.F ht⟩) hS.2.2 dX4_begin_82
