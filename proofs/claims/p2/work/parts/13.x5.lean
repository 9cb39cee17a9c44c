set_option maxHeartbeats 4000000 in
set_option maxRecDepth 100000 in
theorem s_J13_bitCount_95d88 (l : Launch) (dC : Nat → ClassId) (dI : Nat → Nat → Nat) (p1 : Int64) (sz : Nat) : Met l yJ13_bitCount_95d88 wsJ13_bitCount_95d88 ({ frames := 0, cells := 0, slots := 0, locals := 0 }) (va_Pc [.long p1] (fun U => U.heap.size = sz ∧ va_P (dC, dI) vwCl [] U.heap ∧ va_K (dC, dI) vwCl [] U ∧ va_D (fun _ => True) [])) (va_Qi (fun (r : Int32) (_ : Unit) => IV 0 127 r) (fun (_ : Unit) (t : State) => va_P (dC, dI) vwCl [] t.heap ∧ va_K (dC, dI) vwCl [] t ∧ va_D (va_A [] sz) []) (va_A [] sz)) 0 0 (va_A [] sz) := by
  refine Met.ofW (cc := cJ13_bitCount_95d88) (maxL := 2) (ret := (some .int)) (by decide +kernel) rfl ?_
  intro p e s m args below meth c s₁ B hml hv
  obtain ⟨rfl, hsz, hP, hK, hD0⟩ := hv
  have hx := B.exec
  have hb := B.bytes
  have hr := B.returns
  have hts := atoms_spec (ws := wsJ13_bitCount_95d88) B.pre
  have hown : s.vm.findClass RJ13 = some m.cls := findClass_of_methodNamed B.named
  have hlocks := B.notSynchronized
  subst hsz
  have hD := hD0.self (sz := s.heap.size)
  generalize hAe : va_A [] s.heap.size = A at hD ⊢
  have hA : ∀ q : Nat, s.heap.size ≤ q → A q := fun q h => by rw [← hAe]; exact Or.inr h
  have hS : va_S A s.heap s.heap [] := va_S.rf
  have hP : va_P (dC, dI) vwCl [] s.heap := hP
  have hl := lv_entry ([.long p1]) (n := 2) (Nat.le_of_ble_eq_true rfl)
  rw [lg_entry_eq]
  generalize (lg_sl ([.long p1]) ++ List.replicate (2 - (lg_sl ([.long p1])).length) Slot.unset).toArray = ls at hl ⊢
  have hl : lv_has ls 2 [(0, .long p1)] := hl
  refine lv_lload_n hx hb dJ13_bitCount_95d88_0 rfl (lv_at hl 0 rfl) ?_
  refine lv_lload_n hx hb dJ13_bitCount_95d88_1 rfl (lv_at hl 0 rfl) ?_
  refine lv_iconst (v := 1) hx hb dJ13_bitCount_95d88_2 (by decide) ?_
  refine lv_lushr hx hb dJ13_bitCount_95d88_3 rfl ?_
  refine lv_topl (fun zy1 ezy1 => ?_)
  refine lv_ldc2 hx hb hown (hts (.constantLong RJ13 314 (6148914691236517205)) (List.mem_of_getElem? (i := 1) rfl)) dJ13_bitCount_95d88_4 ?_
  refine lv_land hx hb dJ13_bitCount_95d88_7 ?_
  refine lv_topl (fun zy2 ezy2 => ?_)
  refine lv_lsub hx hb dJ13_bitCount_95d88_8 ?_
  refine lv_topl (fun zy3 ezy3 => ?_)
  refine lv_lstore_n (lv' := [(0, .long zy3)]) hx hb dJ13_bitCount_95d88_9 rfl hl (by decide) rfl (fun ls hl => ?_)
  refine lv_lload_n hx hb dJ13_bitCount_95d88_10 rfl (lv_at hl 0 rfl) ?_
  refine lv_ldc2 hx hb hown (hts (.constantLong RJ13 316 (3689348814741910323)) (List.mem_of_getElem? (i := 2) rfl)) dJ13_bitCount_95d88_11 ?_
  refine lv_land hx hb dJ13_bitCount_95d88_14 ?_
  refine lv_topl (fun zy4 ezy4 => ?_)
  refine lv_lload_n hx hb dJ13_bitCount_95d88_15 rfl (lv_at hl 0 rfl) ?_
  refine lv_iconst (v := 2) hx hb dJ13_bitCount_95d88_16 (by decide) ?_
  refine lv_lushr hx hb dJ13_bitCount_95d88_17 rfl ?_
  refine lv_topl (fun zy5 ezy5 => ?_)
  refine lv_ldc2 hx hb hown (hts (.constantLong RJ13 316 (3689348814741910323)) (List.mem_of_getElem? (i := 2) rfl)) dJ13_bitCount_95d88_18 ?_
  refine lv_land hx hb dJ13_bitCount_95d88_21 ?_
  refine lv_topl (fun zy6 ezy6 => ?_)
  refine lv_ladd hx hb dJ13_bitCount_95d88_22 ?_
  refine lv_topl (fun zy7 ezy7 => ?_)
  refine lv_lstore_n (lv' := [(0, .long zy7)]) hx hb dJ13_bitCount_95d88_23 rfl hl (by decide) rfl (fun ls hl => ?_)
  refine lv_lload_n hx hb dJ13_bitCount_95d88_24 rfl (lv_at hl 0 rfl) ?_
  refine lv_lload_n hx hb dJ13_bitCount_95d88_25 rfl (lv_at hl 0 rfl) ?_
  refine lv_iconst (v := 4) hx hb dJ13_bitCount_95d88_26 (by decide) ?_
  refine lv_lushr hx hb dJ13_bitCount_95d88_27 rfl ?_
  refine lv_topl (fun zy8 ezy8 => ?_)
  refine lv_ladd hx hb dJ13_bitCount_95d88_28 ?_
  refine lv_topl (fun zy9 ezy9 => ?_)
  refine lv_ldc2 hx hb hown (hts (.constantLong RJ13 318 (1085102592571150095)) (List.mem_of_getElem? (i := 3) rfl)) dJ13_bitCount_95d88_29 ?_
  refine lv_land hx hb dJ13_bitCount_95d88_32 ?_
  refine lv_topl (fun zy10 ezy10 => ?_)
  refine lv_lstore_n (lv' := [(0, .long zy10)]) hx hb dJ13_bitCount_95d88_33 rfl hl (by decide) rfl (fun ls hl => ?_)
  refine lv_lload_n hx hb dJ13_bitCount_95d88_34 rfl (lv_at hl 0 rfl) ?_
  refine lv_lload_n hx hb dJ13_bitCount_95d88_35 rfl (lv_at hl 0 rfl) ?_
  refine lv_bipush (v := 8) hx hb dJ13_bitCount_95d88_36 (by decide) ?_
  refine lv_lushr hx hb dJ13_bitCount_95d88_38 rfl ?_
  refine lv_topl (fun zy11 ezy11 => ?_)
  refine lv_ladd hx hb dJ13_bitCount_95d88_39 ?_
  refine lv_topl (fun zy12 ezy12 => ?_)
  refine lv_lstore_n (lv' := [(0, .long zy12)]) hx hb dJ13_bitCount_95d88_40 rfl hl (by decide) rfl (fun ls hl => ?_)
  refine lv_lload_n hx hb dJ13_bitCount_95d88_41 rfl (lv_at hl 0 rfl) ?_
  refine lv_lload_n hx hb dJ13_bitCount_95d88_42 rfl (lv_at hl 0 rfl) ?_
  refine lv_bipush (v := 16) hx hb dJ13_bitCount_95d88_43 (by decide) ?_
  refine lv_lushr hx hb dJ13_bitCount_95d88_45 rfl ?_
  refine lv_topl (fun zy13 ezy13 => ?_)
  refine lv_ladd hx hb dJ13_bitCount_95d88_46 ?_
  refine lv_topl (fun zy14 ezy14 => ?_)
  refine lv_lstore_n (lv' := [(0, .long zy14)]) hx hb dJ13_bitCount_95d88_47 rfl hl (by decide) rfl (fun ls hl => ?_)
  refine lv_lload_n hx hb dJ13_bitCount_95d88_48 rfl (lv_at hl 0 rfl) ?_
  refine lv_lload_n hx hb dJ13_bitCount_95d88_49 rfl (lv_at hl 0 rfl) ?_
  refine lv_bipush (v := 32) hx hb dJ13_bitCount_95d88_50 (by decide) ?_
  refine lv_lushr hx hb dJ13_bitCount_95d88_52 rfl ?_
  refine lv_topl (fun zy15 ezy15 => ?_)
  refine lv_ladd hx hb dJ13_bitCount_95d88_53 ?_
  refine lv_topl (fun zy16 ezy16 => ?_)
  refine lv_lstore_n (lv' := [(0, .long zy16)]) hx hb dJ13_bitCount_95d88_54 rfl hl (by decide) rfl (fun ls hl => ?_)
  refine lv_lload_n hx hb dJ13_bitCount_95d88_55 rfl (lv_at hl 0 rfl) ?_
  refine lv_l2i hx hb dJ13_bitCount_95d88_56 rfl ?_
  refine lv_topi (fun zy17 ezy17 => ?_)
  refine lv_bipush (v := 127) hx hb dJ13_bitCount_95d88_57 (by decide) ?_
  refine lv_iand hx hb dJ13_bitCount_95d88_59 ?_
  refine lv_topi (fun zy18 ezy18 => ?_)
  have by19 : IV 0 127 zy18 := IV_and 7 ezy18 (by decide) (by decide) (by decide) (by decide)
  exact W.iret (v := zy18) hx hb hr (fun t ht hW => ⟨⟨zy18, (), rfl, by19, by rw [ht]; exact hP, va_K.moved hW.alike hK, hD⟩, hS.F ht⟩) hS.2.2 dJ13_bitCount_95d88_60

set_option maxHeartbeats 4000000 in
set_option maxRecDepth 100000 in
theorem s_X5_isEver (l : Launch) (dC : Nat → ClassId) (dI : Nat → Nat → Nat) (h0 : Nat) (h0_0 : Int32) (h0_1 : Int64) (h0_2 : Int64) (h0_3 : Nat) (h0_4 : Int64) (p1 : Int32) (p2 : Int32) (sz : Nat) : Met l yX5_isEver wsX5_isEver ({ frames := 0, cells := 0, slots := 0, locals := 0 }) (va_Pc [.ref h0, .int p1, .int p2] (fun U => U.heap.size = sz ∧ va_P (dC, dI) vwCl [(h0, .inr (4, [.int h0_0, .long h0_1, .long h0_2, .ref h0_3, .long h0_4]))] U.heap ∧ va_K (dC, dI) vwCl [] U ∧ va_D (fun _ => True) [(h0, .inr (4, [.int h0_0, .long h0_1, .long h0_2, .ref h0_3, .long h0_4]))])) (va_Qi (fun (r : Int32) (_ : Unit) => IV 0 1 r) (fun (_ : Unit) (t : State) => va_P (dC, dI) vwCl [(h0, .inr (4, [.int h0_0, .long h0_1, .long h0_2, .ref h0_3, .long h0_4]))] t.heap ∧ va_K (dC, dI) vwCl [] t ∧ va_D (va_A [(h0, .inr (4, [.int h0_0, .long h0_1, .long h0_2, .ref h0_3, .long h0_4]))] sz) [(h0, .inr (4, [.int h0_0, .long h0_1, .long h0_2, .ref h0_3, .long h0_4]))]) (va_A [(h0, .inr (4, [.int h0_0, .long h0_1, .long h0_2, .ref h0_3, .long h0_4]))] sz)) 0 0 (va_A [(h0, .inr (4, [.int h0_0, .long h0_1, .long h0_2, .ref h0_3, .long h0_4]))] sz) := by
  refine Met.ofW (cc := cX5_isEver) (maxL := 3) (ret := (some .boolean)) (by decide +kernel) rfl ?_
  intro p e s m args below meth c s₁ B hml hv
  obtain ⟨rfl, hsz, hP, hK, hD0⟩ := hv
  have hx := B.exec
  have hb := B.bytes
  have hr := B.returns
  have hts := atoms_spec (ws := wsX5_isEver) B.pre
  have hown : s.vm.findClass RX5 = some m.cls := findClass_of_methodNamed B.named
  have hlocks := B.notSynchronized
  have inX5_ : ∀ w ∈ wsX50, w ∈ wsX5_isEver := fun _ h => List.mem_cons_of_mem _ (List.mem_append_right _ h)
  subst hsz
  have hD := hD0.self (sz := s.heap.size)
  generalize hAe : va_A [(h0, .inr (4, [.int h0_0, .long h0_1, .long h0_2, .ref h0_3, .long h0_4]))] s.heap.size = A at hD ⊢
  have hA : ∀ q : Nat, s.heap.size ≤ q → A q := fun q h => by rw [← hAe]; exact Or.inr h
  have hS : va_S A s.heap s.heap [] := va_S.rf
  have hP : va_P (dC, dI) vwCl [(h0, .inr (4, [.int h0_0, .long h0_1, .long h0_2, .ref h0_3, .long h0_4]))] s.heap := hP
  have hl := lv_entry ([.ref h0, .int p1, .int p2]) (n := 3) (Nat.le_of_ble_eq_true rfl)
  rw [lg_entry_eq]
  generalize (lg_sl ([.ref h0, .int p1, .int p2]) ++ List.replicate (3 - (lg_sl ([.ref h0, .int p1, .int p2])).length) Slot.unset).toArray = ls at hl ⊢
  have hl : lv_has ls 3 [(0, .ref h0), (1, .int p1), (2, .int p2)] := hl
  refine lv_iload_n hx hb dX5_isEver_0 rfl (lv_at hl 2 rfl) ?_
  refine W_abs (fun GWy3 eGy4 => ?_)
  have jny5 : ∀ (my2 : Int64) (HGWy3 : Heap) (locs : List Loc) (ls : Array Slot), va_P (dC, dI) vwCl [(h0, .inr (4, [.int h0_0, .long h0_1, .long h0_2, .ref h0_3, .long h0_4]))] HGWy3 → va_D A [(h0, .inr (4, [.int h0_0, .long h0_1, .long h0_2, .ref h0_3, .long h0_4]))] → va_S A s.heap HGWy3 locs → lv_has ls 3 [(0, .ref h0), (1, .int p1), (2, .int p2)] → GWy3 HGWy3 locs 0 0 (F0 m 15 ls [.long my2]) := by
    intro my2 HGWy3 locs ls hP hD hS hl
    refine (eGy4 _ _ _ _ _).mpr ?_
    refine lv_iload_n hx hb dX5_isEver_15 rfl (lv_at hl 1 rfl) ?_
    refine lv_lushr hx hb dX5_isEver_16 rfl ?_
    refine lv_topl (fun zy6 ezy6 => ?_)
    refine lv_lconst (v := 1) hx hb dX5_isEver_17 (by decide) ?_
    refine lv_land hx hb dX5_isEver_18 ?_
    refine lv_topl (fun zy7 ezy7 => ?_)
    refine lv_lconst (v := 1) hx hb dX5_isEver_19 (by decide) ?_
    refine W.lcmp hx hb dX5_isEver_20 ?_
    refine lv_topi (fun zy8 ezy8 => ?_)
    refine lv_if_ne (tgt := 28) hx hb dX5_isEver_21 (by decide) (fun cy9 => ?_) (fun cy9 => ?_)
    · have h_cy9 := cy9
      refine lv_iconst (v := 0) hx hb dX5_isEver_28 (by decide) ?_
      exact W.zret (v := 0) hx hb hr (by decide) (fun t ht hW => ⟨⟨0, (), rfl, (IV_mk (by decide) (by decide)), by rw [ht]; exact hP, va_K.moved hW.alike hK, hD⟩, hS.F ht⟩) hS.2.2 dX5_isEver_29
    · have h_cy9 := cy9
      have by10 : IV 0 0 zy8 := IV_eq_l cy9 (IV_top zy8) (IV_mk (a := 0) (b := 0) (by decide) (by decide)) (by decide) (by decide)
      refine lv_iconst (v := 1) hx hb dX5_isEver_24 (by decide) ?_
      refine lv_goto (tgt := 29) hx hb dX5_isEver_25 (by decide) ?_
      exact W.zret (v := 1) hx hb hr (by decide) (fun t ht hW => ⟨⟨1, (), rfl, (IV_mk (by decide) (by decide)), by rw [ht]; exact hP, va_K.moved hW.alike hK, hD⟩, hS.F ht⟩) hS.2.2 dX5_isEver_29
  refine (eGy4 _ _ _ _ _).mpr ?_
  refine lv_if_ne (tgt := 11) hx hb dX5_isEver_1 (by decide) (fun cy1 => ?_) (fun cy1 => ?_)
  · have h_cy1 := cy1
    refine lv_aload_n hx hb dX5_isEver_11 rfl (lv_at hl 0 rfl) ?_
    refine va_get (D := (dC, dI)) (ci := 4) (v := .long h0_2) (C := RX5) (T := TX5) (N := 5) hx hb hts inX5_ hown hK hP 0 rfl rfl 2 (by decide) (hts (.fieldLink RX5 23 "GateWheel$Worlds" "ones" "J") (List.mem_of_getElem? (i := 2) rfl)) (fun _ h9 => h9) rfl dX5_isEver_12 ?_
    exact (eGy4 _ _ _ _ _).mp (jny5 h0_2 _ _ _ hP hD hS (lv_sub hl [0, 1, 2] rfl))
  · have h_cy1 := cy1
    have by11 : IV 0 0 p2 := IV_eq_l cy1 (IV_top p2) (IV_mk (a := 0) (b := 0) (by decide) (by decide)) (by decide) (by decide)
    refine lv_aload_n hx hb dX5_isEver_4 rfl (lv_at hl 0 rfl) ?_
    refine va_get (D := (dC, dI)) (ci := 4) (v := .long h0_1) (C := RX5) (T := TX5) (N := 5) hx hb hts inX5_ hown hK hP 0 rfl rfl 1 (by decide) (hts (.fieldLink RX5 19 "GateWheel$Worlds" "zeros" "J") (List.mem_of_getElem? (i := 1) rfl)) (fun _ h9 => h9) rfl dX5_isEver_5 ?_
    refine lv_goto (tgt := 15) hx hb dX5_isEver_8 (by decide) ?_
    exact (eGy4 _ _ _ _ _).mp (jny5 h0_1 _ _ _ hP hD hS (lv_sub hl [0, 1, 2] rfl))

set_option maxHeartbeats 4000000 in
set_option maxRecDepth 100000 in
theorem s_X5_sharpValue (l : Launch) (dC : Nat → ClassId) (dI : Nat → Nat → Nat) (h0 : Nat) (h0_0 : Int32) (h0_1 : Int64) (h0_2 : Int64) (h0_3 : Nat) (h0_4 : Int64) (p1 : Int32) (sz : Nat) : Met l yX5_sharpValue wsX5_sharpValue ({ frames := 1, cells := 0, slots := 0, locals := 22 }) (va_Pc [.ref h0, .int p1] (fun U => U.heap.size = sz ∧ va_P (dC, dI) vwCl [(h0, .inr (4, [.int h0_0, .long h0_1, .long h0_2, .ref h0_3, .long h0_4]))] U.heap ∧ va_K (dC, dI) vwCl [] U ∧ va_D (fun _ => True) [(h0, .inr (4, [.int h0_0, .long h0_1, .long h0_2, .ref h0_3, .long h0_4]))])) (va_Qi (fun (r : Int32) (_ : Unit) => IV 0 3 r) (fun (_ : Unit) (t : State) => va_P (dC, dI) vwCl [(h0, .inr (4, [.int h0_0, .long h0_1, .long h0_2, .ref h0_3, .long h0_4]))] t.heap ∧ va_K (dC, dI) vwCl [] t ∧ va_D (va_A [(h0, .inr (4, [.int h0_0, .long h0_1, .long h0_2, .ref h0_3, .long h0_4]))] sz) [(h0, .inr (4, [.int h0_0, .long h0_1, .long h0_2, .ref h0_3, .long h0_4]))]) (va_A [(h0, .inr (4, [.int h0_0, .long h0_1, .long h0_2, .ref h0_3, .long h0_4]))] sz)) 0 0 (va_A [(h0, .inr (4, [.int h0_0, .long h0_1, .long h0_2, .ref h0_3, .long h0_4]))] sz) := by
  refine Met.ofW (cc := cX5_sharpValue) (maxL := 2) (ret := (some .int)) (by decide +kernel) rfl ?_
  intro p e s m args below meth c s₁ B hml hv
  obtain ⟨rfl, hsz, hP, hK, hD0⟩ := hv
  have hx := B.exec
  have hb := B.bytes
  have hr := B.returns
  have hts := atoms_spec (ws := wsX5_sharpValue) B.pre
  have hown : s.vm.findClass RX5 = some m.cls := findClass_of_methodNamed B.named
  have hlocks := B.notSynchronized
  have inX5_ : ∀ w ∈ wsX50, w ∈ wsX5_sharpValue := fun _ h => List.mem_cons_of_mem _ (List.mem_append_right _ h)
  subst hsz
  have hD := hD0.self (sz := s.heap.size)
  generalize hAe : va_A [(h0, .inr (4, [.int h0_0, .long h0_1, .long h0_2, .ref h0_3, .long h0_4]))] s.heap.size = A at hD ⊢
  have hA : ∀ q : Nat, s.heap.size ≤ q → A q := fun q h => by rw [← hAe]; exact Or.inr h
  have hS : va_S A s.heap s.heap [] := va_S.rf
  have hP : va_P (dC, dI) vwCl [(h0, .inr (4, [.int h0_0, .long h0_1, .long h0_2, .ref h0_3, .long h0_4]))] s.heap := hP
  have hl := lv_entry ([.ref h0, .int p1]) (n := 2) (Nat.le_of_ble_eq_true rfl)
  rw [lg_entry_eq]
  generalize (lg_sl ([.ref h0, .int p1]) ++ List.replicate (2 - (lg_sl ([.ref h0, .int p1])).length) Slot.unset).toArray = ls at hl ⊢
  have hl : lv_has ls 2 [(0, .ref h0), (1, .int p1)] := hl
  refine lv_aload_n hx hb dX5_sharpValue_0 rfl (lv_at hl 0 rfl) ?_
  refine va_get (D := (dC, dI)) (ci := 4) (v := .int h0_0) (C := RX5) (T := TX5) (N := 5) hx hb hts inX5_ hown hK hP 0 rfl rfl 0 (by decide) (hts (.fieldLink RX5 15 "GateWheel$Worlds" "legalCount" "I") (List.mem_of_getElem? (i := 1) rfl)) (fun _ h9 => h9) rfl dX5_sharpValue_1 ?_
  refine lv_if_ne (tgt := 9) hx hb dX5_sharpValue_4 (by decide) (fun cy1 => ?_) (fun cy1 => ?_)
  · have h_cy1 := cy1
    refine lv_aload_n hx hb dX5_sharpValue_9 rfl (lv_at hl 0 rfl) ?_
    refine lv_iload_n hx hb dX5_sharpValue_10 rfl (lv_at hl 1 rfl) ?_
    refine lv_iconst (v := 0) hx hb dX5_sharpValue_11 (by decide) ?_
    have hPc := hP.sub (ws' := [(h0, .inr (4, [.int h0_0, .long h0_1, .long h0_2, .ref h0_3, .long h0_4]))]) [0] rfl
    have hDc := hD.sub (ws' := [(h0, .inr (4, [.int h0_0, .long h0_1, .long h0_2, .ref h0_3, .long h0_4]))]) [0] (by decide) rfl
    have hKc := hK.sub (tys' := []) [] rfl
    have hFc := va_free (wc := [(h0, .inr (4, [.int h0_0, .long h0_1, .long h0_2, .ref h0_3, .long h0_4]))]) hD hS hA [0] rfl
    refine va_calli (va_runV (As := [.int p1, .int 0]) (rest := []) ⟨hx, hb, hml, hown, hts⟩ (s_X5_isEver l dC dI h0 h0_0 h0_1 h0_2 h0_3 h0_4 p1 0 s.heap.size) (cwV 2 hts gX5_sharpValue_X5_isEver rfl rfl rfl (by decide +kernel) ⟨Nat.le_of_ble_eq_true rfl, Nat.le_of_ble_eq_true rfl⟩) ⟨fun a U g mk q => by obtain ⟨q0, q1, qP, qK, qD⟩ := q; exact ⟨q0, q1, qP, va_K.moved (u := U) (U := U.calling g mk a) (Vm.Alike.refl U.vm) qK, qD⟩, va_recv hKc hPc (ci := 4) (q0 := 0) rfl rfl, fun U hU hW => ⟨rfl, by rw [hU], by rw [hU]; exact hPc, va_K.moved hW.alike hKc, hDc.weaken (fun _ _ _ _ => trivial)⟩⟩ rfl rfl hl.1 rfl (lv_room (Nat.le_of_ble_eq_true rfl)) dX5_sharpValue_12 ⟨Nat.le_of_ble_eq_true rfl, Nat.le_of_ble_eq_true rfl⟩) hS (fun q _ h => hFc q h) hFc (fun ry3 u t Hy2 locs ht hvm hw hB hz1 hk1 hS => ?_)
    obtain ⟨hP1, hK1, hD1⟩ := hB
    rw [ht] at hP1
    obtain ⟨hP, hD⟩ := va_join (wr := []) (w1 := [(h0, .inr (4, [.int h0_0, .long h0_1, .long h0_2, .ref h0_3, .long h0_4]))]) hP hD [0] [] rfl rfl (by decide) (by decide) hk1 hFc hP1 hD1
    have hP : va_P (dC, dI) vwCl [(h0, .inr (4, [.int h0_0, .long h0_1, .long h0_2, .ref h0_3, .long h0_4]))] Hy2 := hP
    have hD : va_D A [(h0, .inr (4, [.int h0_0, .long h0_1, .long h0_2, .ref h0_3, .long h0_4]))] := hD
    have by4 : IV 0 1 ry3 := hw
    refine lv_if_eq (tgt := 33) hx hb dX5_sharpValue_15 (by decide) (fun cy5 => ?_) (fun cy5 => ?_)
    · have h_cy5 := cy5
      have by6 : IV 0 0 ry3 := IV_eq_l cy5 by4 (IV_mk (a := 0) (b := 0) (by decide) (by decide)) (by decide) (by decide)
      refine lv_iconst (v := 1) hx hb dX5_sharpValue_33 (by decide) ?_
      exact W.iret (v := 1) hx hb hr (fun t ht hW => ⟨⟨1, (), rfl, (IV_mk (by decide) (by decide)), by rw [ht]; exact hP, va_K.moved hW.alike hK, hD⟩, hS.F ht⟩) hS.2.2 dX5_sharpValue_34
    · have h_cy5 := cy5
      have by7 : IV 1 1 ry3 := IV_ne_lo cy5 by4 (IV_mk (a := 0) (b := 0) (by decide) (by decide)) (by decide) (by decide) (by decide)
      refine lv_aload_n hx hb dX5_sharpValue_18 rfl (lv_at hl 0 rfl) ?_
      refine lv_iload_n hx hb dX5_sharpValue_19 rfl (lv_at hl 1 rfl) ?_
      refine lv_iconst (v := 1) hx hb dX5_sharpValue_20 (by decide) ?_
      have hPc := hP.sub (ws' := [(h0, .inr (4, [.int h0_0, .long h0_1, .long h0_2, .ref h0_3, .long h0_4]))]) [0] rfl
      have hDc := hD.sub (ws' := [(h0, .inr (4, [.int h0_0, .long h0_1, .long h0_2, .ref h0_3, .long h0_4]))]) [0] (by decide) rfl
      have hKc := hK.sub (tys' := []) [] rfl
      have hFc := va_free (wc := [(h0, .inr (4, [.int h0_0, .long h0_1, .long h0_2, .ref h0_3, .long h0_4]))]) hD hS hA [0] rfl
      refine va_calli (va_runV (As := [.int p1, .int 1]) (rest := []) ⟨hx, hb, hml, hown, hts⟩ (s_X5_isEver l dC dI h0 h0_0 h0_1 h0_2 h0_3 h0_4 p1 1 Hy2.size) (cwV 2 hts gX5_sharpValue_X5_isEver rfl rfl rfl (by decide +kernel) ⟨Nat.le_of_ble_eq_true rfl, Nat.le_of_ble_eq_true rfl⟩) ⟨fun a U g mk q => by obtain ⟨q0, q1, qP, qK, qD⟩ := q; exact ⟨q0, q1, qP, va_K.moved (u := U) (U := U.calling g mk a) (Vm.Alike.refl U.vm) qK, qD⟩, va_recv hKc hPc (ci := 4) (q0 := 0) rfl rfl, fun U hU hW => ⟨rfl, by rw [hU], by rw [hU]; exact hPc, va_K.moved hW.alike hKc, hDc.weaken (fun _ _ _ _ => trivial)⟩⟩ rfl rfl hl.1 rfl (lv_room (Nat.le_of_ble_eq_true rfl)) dX5_sharpValue_21 ⟨Nat.le_of_ble_eq_true rfl, Nat.le_of_ble_eq_true rfl⟩) hS (fun q _ h => hFc q h) hFc (fun ry9 u t Hy8 locs ht hvm hw hB hz1 hk1 hS => ?_)
      obtain ⟨hP1, hK1, hD1⟩ := hB
      rw [ht] at hP1
      obtain ⟨hP, hD⟩ := va_join (wr := []) (w1 := [(h0, .inr (4, [.int h0_0, .long h0_1, .long h0_2, .ref h0_3, .long h0_4]))]) hP hD [0] [] rfl rfl (by decide) (by decide) hk1 hFc hP1 hD1
      have hP : va_P (dC, dI) vwCl [(h0, .inr (4, [.int h0_0, .long h0_1, .long h0_2, .ref h0_3, .long h0_4]))] Hy8 := hP
      have hD : va_D A [(h0, .inr (4, [.int h0_0, .long h0_1, .long h0_2, .ref h0_3, .long h0_4]))] := hD
      have by10 : IV 0 1 ry9 := hw
      refine lv_if_eq (tgt := 31) hx hb dX5_sharpValue_24 (by decide) (fun cy11 => ?_) (fun cy11 => ?_)
      · have h_cy11 := cy11
        have by12 : IV 0 0 ry9 := IV_eq_l cy11 by10 (IV_mk (a := 0) (b := 0) (by decide) (by decide)) (by decide) (by decide)
        refine lv_iconst (v := 0) hx hb dX5_sharpValue_31 (by decide) ?_
        exact W.iret (v := 0) hx hb hr (fun t ht hW => ⟨⟨0, (), rfl, (IV_mk (by decide) (by decide)), by rw [ht]; exact hP, va_K.moved hW.alike hK, hD⟩, hS.F ht⟩) hS.2.2 dX5_sharpValue_32
      · have h_cy11 := cy11
        have by13 : IV 1 1 ry9 := IV_ne_lo cy11 by10 (IV_mk (a := 0) (b := 0) (by decide) (by decide)) (by decide) (by decide) (by decide)
        refine lv_iconst (v := 2) hx hb dX5_sharpValue_27 (by decide) ?_
        refine lv_goto (tgt := 32) hx hb dX5_sharpValue_28 (by decide) ?_
        exact W.iret (v := 2) hx hb hr (fun t ht hW => ⟨⟨2, (), rfl, (IV_mk (by decide) (by decide)), by rw [ht]; exact hP, va_K.moved hW.alike hK, hD⟩, hS.F ht⟩) hS.2.2 dX5_sharpValue_32
  · have h_cy1 := cy1
    have by14 : IV 0 0 h0_0 := IV_eq_l cy1 (IV_top h0_0) (IV_mk (a := 0) (b := 0) (by decide) (by decide)) (by decide) (by decide)
    refine lv_iconst (v := 3) hx hb dX5_sharpValue_7 (by decide) ?_
    exact W.iret (v := 3) hx hb hr (fun t ht hW => ⟨⟨3, (), rfl, (IV_mk (by decide) (by decide)), by rw [ht]; exact hP, va_K.moved hW.alike hK, hD⟩, hS.F ht⟩) hS.2.2 dX5_sharpValue_8

set_option maxHeartbeats 4000000 in
set_option maxRecDepth 100000 in
theorem s_X5_freeRow (l : Launch) (dC : Nat → ClassId) (dI : Nat → Nat → Nat) (p1 : Int32) (p2 : Int32) (tg : Nat × Nat × Nat × Nat) (sz : Nat) (hy_p1 : IV 0 60 p1) : Met l yX5_freeRow wsX5_freeRow ({ frames := 0, cells := 0, slots := 0, locals := 0 }) (va_Pc [.int p1, .int p2] (fun U => U.heap.size = sz ∧ va_P (dC, dI) vwCl [] U.heap ∧ va_K (dC, dI) vwCl [] U ∧ va_D (fun _ => True) [] ∧ STG tg (va_A [] sz) U U.heap)) (va_Ql (fun (r : Int64) (_ : Unit) => True) (fun (_ : Unit) (t : State) => va_P (dC, dI) vwCl [] t.heap ∧ va_K (dC, dI) vwCl [] t ∧ va_D (va_A [] sz) []) (va_A [] sz)) 0 0 (va_A [] sz) := by
  refine Met.ofW (cc := cX5_freeRow) (maxL := 2) (ret := (some .long)) (by decide +kernel) rfl ?_
  intro p e s m args below meth c s₁ B hml hv
  obtain ⟨rfl, hsz, hP, hK, hD0, hST⟩ := hv
  have hx := B.exec
  have hb := B.bytes
  have hr := B.returns
  have hts := atoms_spec (ws := wsX5_freeRow) B.pre
  have hown : s.vm.findClass RX5 = some m.cls := findClass_of_methodNamed B.named
  have hlocks := B.notSynchronized
  subst hsz
  have hD := hD0.self (sz := s.heap.size)
  generalize hAe : va_A [] s.heap.size = A at hD hST ⊢
  have hA : ∀ q : Nat, s.heap.size ≤ q → A q := fun q h => by rw [← hAe]; exact Or.inr h
  have hS : va_S A s.heap s.heap [] := va_S.rf
  have hP : va_P (dC, dI) vwCl [] s.heap := hP
  have hl := lv_entry ([.int p1, .int p2]) (n := 2) (Nat.le_of_ble_eq_true rfl)
  rw [lg_entry_eq]
  generalize (lg_sl ([.int p1, .int p2]) ++ List.replicate (2 - (lg_sl ([.int p1, .int p2])).length) Slot.unset).toArray = ls at hl ⊢
  have hl : lv_has ls 2 [(0, .int p1), (1, .int p2)] := hl
  refine lv_iload_n hx hb dX5_freeRow_0 rfl (lv_at hl 0 rfl) ?_
  refine va_gets hx hb (sp_Z hST) hS hown (hts (.fieldLink RX5 59 "GateWheel$Worlds" "PATTERNS" "[J") (List.mem_of_getElem? (i := 1) rfl)) (fun _ h9 => h9) dX5_freeRow_1 ?_
  refine va_tlen (v := 6) hx hb (sp_T hST) hS rfl dX5_freeRow_4 ?_
  refine lv_icmp_ge (tgt := 14) hx hb dX5_freeRow_5 (by decide) (fun cy1 => ?_) (fun cy1 => ?_)
  · have h_cy1 := cy1
    have by2 : IV 6 60 p1 := IV_le_r cy1 (IV_mk (a := 6) (b := 6) (by decide) (by decide)) hy_p1 (by decide) (by decide)
    refine lv_iload_n hx hb dX5_freeRow_14 rfl (lv_at hl 1 rfl) ?_
    refine lv_iload_n hx hb dX5_freeRow_15 rfl (lv_at hl 0 rfl) ?_
    refine lv_bipush (v := 6) hx hb dX5_freeRow_16 (by decide) ?_
    refine lv_isub hx hb dX5_freeRow_18 ?_
    refine lv_topi (fun zy3 ezy3 => ?_)
    have by4 : IV 0 54 zy3 := IV_sub ezy3 by2 (IV_mk (a := 6) (b := 6) (by decide) (by decide)) (by decide) (by decide) (by decide) (by decide)
    refine lv_ishr hx hb dX5_freeRow_19 ?_
    refine lv_topi (fun zy5 ezy5 => ?_)
    refine lv_iconst (v := 1) hx hb dX5_freeRow_20 (by decide) ?_
    refine lv_iand hx hb dX5_freeRow_21 ?_
    refine lv_topi (fun zy6 ezy6 => ?_)
    have by7 : IV 0 1 zy6 := IV_and 1 ezy6 (by decide) (by decide) (by decide) (by decide)
    refine lv_iconst (v := 1) hx hb dX5_freeRow_22 (by decide) ?_
    refine lv_icmp_ne (tgt := 32) hx hb dX5_freeRow_23 (by decide) (fun cy8 => ?_) (fun cy8 => ?_)
    · have h_cy8 := cy8
      have by9 : IV 0 0 zy6 := IV_ne_hi cy8 by7 (IV_mk (a := 1) (b := 1) (by decide) (by decide)) (by decide) (by decide) (by decide)
      refine lv_lconst (v := 0) hx hb dX5_freeRow_32 (by decide) ?_
      exact W.lret (v := 0) hx hb hr (fun t ht hW => ⟨⟨0, (), rfl, trivial, by rw [ht]; exact hP, va_K.moved hW.alike hK, hD⟩, hS.F ht⟩) hS.2.2 dX5_freeRow_33
    · have h_cy8 := cy8
      have by10 : IV 1 1 zy6 := IV_eq_l cy8 by7 (IV_mk (a := 1) (b := 1) (by decide) (by decide)) (by decide) (by decide)
      refine lv_ldc2 hx hb hown (hts (.constantLong RX5 26 (-1)) (List.mem_of_getElem? (i := 2) rfl)) dX5_freeRow_26 ?_
      refine lv_goto (tgt := 33) hx hb dX5_freeRow_29 (by decide) ?_
      exact W.lret (v := (-1)) hx hb hr (fun t ht hW => ⟨⟨(-1), (), rfl, trivial, by rw [ht]; exact hP, va_K.moved hW.alike hK, hD⟩, hS.F ht⟩) hS.2.2 dX5_freeRow_33
  · have h_cy1 := cy1
    have by11 : IV 0 5 p1 := IV_nle_r cy1 (IV_mk (a := 6) (b := 6) (by decide) (by decide)) hy_p1 (by decide) (by decide)
    refine va_gets hx hb (sp_Z hST) hS hown (hts (.fieldLink RX5 59 "GateWheel$Worlds" "PATTERNS" "[J") (List.mem_of_getElem? (i := 1) rfl)) (fun _ h9 => h9) dX5_freeRow_8 ?_
    refine lv_iload_n hx hb dX5_freeRow_11 rfl (lv_at hl 0 rfl) ?_
    refine va_tl (v := .long (sp_f (p1 : Int32).toNatClampNeg)) hx hb (sp_T hST) hS (IV_in by11 (by decide) (by decide)) rfl dX5_freeRow_12 ?_
    refine lv_topl (fun zy12 ezy12 => ?_)
    exact W.lret (v := zy12) hx hb hr (fun t ht hW => ⟨⟨zy12, (), rfl, trivial, by rw [ht]; exact hP, va_K.moved hW.alike hK, hD⟩, hS.F ht⟩) hS.2.2 dX5_freeRow_13

set_option maxHeartbeats 4000000 in
set_option maxRecDepth 100000 in
theorem s_X5_fillSources (l : Launch) (dC : Nat → ClassId) (dI : Nat → Nat → Nat) (h0 : Nat) (h0_3 : Nat) (h1 : Nat) (h1_4 : Nat) (a2 : Nat) (h0_0 : Int32) (h0_1 : Int64) (h0_2 : Int64) (h0_4 : Int64) (yh0_3 : ClassId) (fh0_3 : Nat → Int64) (h1_0 : Int32) (h1_1 : Int32) (h1_2 : Nat) (h1_3 : Nat) (h1_5 : Nat) (h1_6 : Nat) (h1_7 : Nat) (h1_8 : Nat) (h1_9 : Nat) (h1_10 : Nat) (h1_11 : Nat) (h1_12 : Nat) (yh1_4 : ClassId) (fh1_4 : Nat → Int32) (ya2 : ClassId) (fa2 : Nat → Int32) (p3 : Int32) (tg : Nat × Nat × Nat × Nat) (sz : Nat) (hy_h1_0 : IV 0 60 h1_0) : Met l yX5_fillSources wsX5_fillSources ({ frames := 3, cells := 0, slots := 0, locals := 64 }) (va_Pc [.ref h0, .ref h1, .ref a2, .int p3] (fun U => U.heap.size = sz ∧ va_P (dC, dI) vwCl [(h0, .inr (4, [.int h0_0, .long h0_1, .long h0_2, .ref h0_3, .long h0_4])), (h0_3, .inl (yh0_3, 60, .inr (.inl fh0_3))), (h1, .inr (0, [.int h1_0, .int h1_1, .ref h1_2, .ref h1_3, .ref h1_4, .ref h1_5, .ref h1_6, .ref h1_7, .ref h1_8, .ref h1_9, .ref h1_10, .ref h1_11, .ref h1_12])), (h1_4, .inl (yh1_4, 60, .inl fh1_4)), (a2, .inl (ya2, 60, .inl fa2))] U.heap ∧ va_K (dC, dI) vwCl [(yh0_3, .long), (yh1_4, .int), (ya2, .int)] U ∧ va_D (fun _ => True) [(h0, .inr (4, [.int h0_0, .long h0_1, .long h0_2, .ref h0_3, .long h0_4])), (h0_3, .inl (yh0_3, 60, .inr (.inl fh0_3))), (h1, .inr (0, [.int h1_0, .int h1_1, .ref h1_2, .ref h1_3, .ref h1_4, .ref h1_5, .ref h1_6, .ref h1_7, .ref h1_8, .ref h1_9, .ref h1_10, .ref h1_11, .ref h1_12])), (h1_4, .inl (yh1_4, 60, .inl fh1_4)), (a2, .inl (ya2, 60, .inl fa2))] ∧ STG tg (va_A [(h0, .inr (4, [.int h0_0, .long h0_1, .long h0_2, .ref h0_3, .long h0_4])), (h0_3, .inl (yh0_3, 60, .inr (.inl fh0_3))), (h1, .inr (0, [.int h1_0, .int h1_1, .ref h1_2, .ref h1_3, .ref h1_4, .ref h1_5, .ref h1_6, .ref h1_7, .ref h1_8, .ref h1_9, .ref h1_10, .ref h1_11, .ref h1_12])), (h1_4, .inl (yh1_4, 60, .inl fh1_4)), (a2, .inl (ya2, 60, .inl fa2))] sz) U U.heap)) (va_Qv (fun (_ : Unit) => True) (fun (_ : Unit) (t : State) => ∃ (fy64 : Nat → Int64), va_P (dC, dI) vwCl [(h0, .inr (4, [.int h0_0, .long h0_1, .long h0_2, .ref h0_3, .long h0_4])), (h0_3, .inl (yh0_3, 60, .inr (.inl fy64))), (h1, .inr (0, [.int h1_0, .int h1_1, .ref h1_2, .ref h1_3, .ref h1_4, .ref h1_5, .ref h1_6, .ref h1_7, .ref h1_8, .ref h1_9, .ref h1_10, .ref h1_11, .ref h1_12])), (h1_4, .inl (yh1_4, 60, .inl fh1_4)), (a2, .inl (ya2, 60, .inl fa2))] t.heap ∧ va_K (dC, dI) vwCl [(yh0_3, .long), (yh1_4, .int), (ya2, .int)] t ∧ va_D (va_A [(h0, .inr (4, [.int h0_0, .long h0_1, .long h0_2, .ref h0_3, .long h0_4])), (h0_3, .inl (yh0_3, 60, .inr (.inl fh0_3))), (h1, .inr (0, [.int h1_0, .int h1_1, .ref h1_2, .ref h1_3, .ref h1_4, .ref h1_5, .ref h1_6, .ref h1_7, .ref h1_8, .ref h1_9, .ref h1_10, .ref h1_11, .ref h1_12])), (h1_4, .inl (yh1_4, 60, .inl fh1_4)), (a2, .inl (ya2, 60, .inl fa2))] sz) [(h0, .inr (4, [.int h0_0, .long h0_1, .long h0_2, .ref h0_3, .long h0_4])), (h0_3, .inl (yh0_3, 60, .inr (.inl fy64))), (h1, .inr (0, [.int h1_0, .int h1_1, .ref h1_2, .ref h1_3, .ref h1_4, .ref h1_5, .ref h1_6, .ref h1_7, .ref h1_8, .ref h1_9, .ref h1_10, .ref h1_11, .ref h1_12])), (h1_4, .inl (yh1_4, 60, .inl fh1_4)), (a2, .inl (ya2, 60, .inl fa2))]) (va_A [(h0, .inr (4, [.int h0_0, .long h0_1, .long h0_2, .ref h0_3, .long h0_4])), (h0_3, .inl (yh0_3, 60, .inr (.inl fh0_3))), (h1, .inr (0, [.int h1_0, .int h1_1, .ref h1_2, .ref h1_3, .ref h1_4, .ref h1_5, .ref h1_6, .ref h1_7, .ref h1_8, .ref h1_9, .ref h1_10, .ref h1_11, .ref h1_12])), (h1_4, .inl (yh1_4, 60, .inl fh1_4)), (a2, .inl (ya2, 60, .inl fa2))] sz)) 0 0 (va_A [(h0, .inr (4, [.int h0_0, .long h0_1, .long h0_2, .ref h0_3, .long h0_4])), (h0_3, .inl (yh0_3, 60, .inr (.inl fh0_3))), (h1, .inr (0, [.int h1_0, .int h1_1, .ref h1_2, .ref h1_3, .ref h1_4, .ref h1_5, .ref h1_6, .ref h1_7, .ref h1_8, .ref h1_9, .ref h1_10, .ref h1_11, .ref h1_12])), (h1_4, .inl (yh1_4, 60, .inl fh1_4)), (a2, .inl (ya2, 60, .inl fa2))] sz) := by
  refine Met.ofW (cc := cX5_fillSources) (maxL := 6) (ret := none) (by decide +kernel) rfl ?_
  intro p e s m args below meth c s₁ B hml hv
  obtain ⟨rfl, hsz, hP, hK, hD0, hST⟩ := hv
  have hx := B.exec
  have hb := B.bytes
  have hr := B.returns
  have hts := atoms_spec (ws := wsX5_fillSources) B.pre
  have hown : s.vm.findClass RX5 = some m.cls := findClass_of_methodNamed B.named
  have hlocks := B.notSynchronized
  have inX0_ : ∀ w ∈ wsX00, w ∈ wsX5_fillSources := fun _ h => List.mem_cons_of_mem _ (List.mem_append_left _ (List.mem_append_right _ h))
  have inX5_ : ∀ w ∈ wsX50, w ∈ wsX5_fillSources := fun _ h => List.mem_cons_of_mem _ (List.mem_append_right _ h)
  subst hsz
  have hD := hD0.self (sz := s.heap.size)
  generalize hAe : va_A [(h0, .inr (4, [.int h0_0, .long h0_1, .long h0_2, .ref h0_3, .long h0_4])), (h0_3, .inl (yh0_3, 60, .inr (.inl fh0_3))), (h1, .inr (0, [.int h1_0, .int h1_1, .ref h1_2, .ref h1_3, .ref h1_4, .ref h1_5, .ref h1_6, .ref h1_7, .ref h1_8, .ref h1_9, .ref h1_10, .ref h1_11, .ref h1_12])), (h1_4, .inl (yh1_4, 60, .inl fh1_4)), (a2, .inl (ya2, 60, .inl fa2))] s.heap.size = A at hD hST ⊢
  have hA : ∀ q : Nat, s.heap.size ≤ q → A q := fun q h => by rw [← hAe]; exact Or.inr h
  have hS : va_S A s.heap s.heap [] := va_S.rf
  have hP : va_P (dC, dI) vwCl [(h0, .inr (4, [.int h0_0, .long h0_1, .long h0_2, .ref h0_3, .long h0_4])), (h0_3, .inl (yh0_3, 60, .inr (.inl fh0_3))), (h1, .inr (0, [.int h1_0, .int h1_1, .ref h1_2, .ref h1_3, .ref h1_4, .ref h1_5, .ref h1_6, .ref h1_7, .ref h1_8, .ref h1_9, .ref h1_10, .ref h1_11, .ref h1_12])), (h1_4, .inl (yh1_4, 60, .inl fh1_4)), (a2, .inl (ya2, 60, .inl fa2))] s.heap := hP
  have hl := lv_entry ([.ref h0, .ref h1, .ref a2, .int p3]) (n := 6) (Nat.le_of_ble_eq_true rfl)
  rw [lg_entry_eq]
  generalize (lg_sl ([.ref h0, .ref h1, .ref a2, .int p3]) ++ List.replicate (6 - (lg_sl ([.ref h0, .ref h1, .ref a2, .int p3])).length) Slot.unset).toArray = ls at hl ⊢
  have hl : lv_has ls 6 [(0, .ref h0), (1, .ref h1), (2, .ref a2), (3, .int p3)] := hl
  refine lv_iconst (v := 0) hx hb dX5_fillSources_0 (by decide) ?_
  refine lv_istore (lv' := [(4, .int 0), (0, .ref h0), (1, .ref h1), (2, .ref a2), (3, .int p3)]) hx hb dX5_fillSources_1 hl (by decide) rfl (fun ls hl => ?_)
  refine lv_iconst (v := 0) hx hb dX5_fillSources_3 (by decide) ?_
  refine lv_istore (lv' := [(5, .int 0), (4, .int 0), (0, .ref h0), (1, .ref h1), (2, .ref a2), (3, .int p3)]) hx hb dX5_fillSources_4 hl (by decide) rfl (fun ls hl => ?_)
  refine W_abs (fun GWy22 eGy23 => ?_)
  have lpy24 : ∀ (n : Nat) (my19 : Int32) (my20 : Int32) (fy21 : Nat → Int64) (HGWy22 : Heap) (locs : List Loc) (ls : Array Slot), 61 - my19.toInt ≤ (n : Int) → IV 0 60 my19 → IV 0 60 my20 → my20.toInt ≤ my19.toInt + 0 → va_P (dC, dI) vwCl [(h0, .inr (4, [.int h0_0, .long h0_1, .long h0_2, .ref h0_3, .long h0_4])), (h0_3, .inl (yh0_3, 60, .inr (.inl fy21))), (h1, .inr (0, [.int h1_0, .int h1_1, .ref h1_2, .ref h1_3, .ref h1_4, .ref h1_5, .ref h1_6, .ref h1_7, .ref h1_8, .ref h1_9, .ref h1_10, .ref h1_11, .ref h1_12])), (h1_4, .inl (yh1_4, 60, .inl fh1_4)), (a2, .inl (ya2, 60, .inl fa2))] HGWy22 → va_D A [(h0, .inr (4, [.int h0_0, .long h0_1, .long h0_2, .ref h0_3, .long h0_4])), (h0_3, .inl (yh0_3, 60, .inr (.inl fy21))), (h1, .inr (0, [.int h1_0, .int h1_1, .ref h1_2, .ref h1_3, .ref h1_4, .ref h1_5, .ref h1_6, .ref h1_7, .ref h1_8, .ref h1_9, .ref h1_10, .ref h1_11, .ref h1_12])), (h1_4, .inl (yh1_4, 60, .inl fh1_4)), (a2, .inl (ya2, 60, .inl fa2))] → va_S A s.heap HGWy22 locs → lv_has ls 6 [(5, .int my19), (4, .int my20), (0, .ref h0), (1, .ref h1), (2, .ref a2), (3, .int p3)] → GWy22 HGWy22 locs 0 0 (F0 m 6 ls []) := by
    intro n
    induction n with
    | zero =>
      intro my19 my20 fy21 HGWy22 locs ls hmGWy22 hmy19 hmy20 hrl_my20_my19 hP hD hS hl
      exact (IV_u0 hmy19 hmGWy22 (by decide)).elim
    | succ n ihGWy22 =>
      intro my19 my20 fy21 HGWy22 locs ls hmGWy22 hmy19 hmy20 hrl_my20_my19 hP hD hS hl
      refine (eGy23 _ _ _ _ _).mpr ?_
      refine lv_iload hx hb dX5_fillSources_6 (lv_at hl 0 rfl) ?_
      refine lv_aload_n hx hb dX5_fillSources_8 rfl (lv_at hl 3 rfl) ?_
      refine va_get (D := (dC, dI)) (ci := 0) (v := .int h1_0) (C := RX0) (T := TX0) (N := 13) hx hb hts inX0_ hown hK hP 2 rfl rfl 0 (by decide) (hts (.fieldLink RX5 46 "GateWheel$Circuit" "count" "I") (List.mem_of_getElem? (i := 1) rfl)) (fun _ h9 => h9) rfl dX5_fillSources_9 ?_
      refine lv_icmp_ge (tgt := 82) hx hb dX5_fillSources_12 (by decide) (fun cy25 => ?_) (fun cy25 => ?_)
      · have h_cy25 := cy25
        exact W.vret hx hb hr (fun t ht hW => ⟨⟨(), rfl, trivial, fy21, by rw [ht]; exact hP, va_K.moved hW.alike hK, hD⟩, hS.F ht⟩) hS.2.2 dX5_fillSources_82
      · have h_cy25 := cy25
        have by26 : IV 1 60 h1_0 := IV_nle_l cy25 hy_h1_0 hmy19 (by decide) (by decide)
        have by27 : IV 0 59 my19 := IV_nle_r cy25 hy_h1_0 hmy19 (by decide) (by decide)
        refine lv_aload_n hx hb dX5_fillSources_15 rfl (lv_at hl 3 rfl) ?_
        refine lv_iload hx hb dX5_fillSources_16 (lv_at hl 0 rfl) ?_
        have hPc := hP.sub (ws' := [(h1, .inr (0, [.int h1_0, .int h1_1, .ref h1_2, .ref h1_3, .ref h1_4, .ref h1_5, .ref h1_6, .ref h1_7, .ref h1_8, .ref h1_9, .ref h1_10, .ref h1_11, .ref h1_12])), (h1_4, .inl (yh1_4, 60, .inl fh1_4))]) [2, 3] rfl
        have hDc := hD.sub (ws' := [(h1, .inr (0, [.int h1_0, .int h1_1, .ref h1_2, .ref h1_3, .ref h1_4, .ref h1_5, .ref h1_6, .ref h1_7, .ref h1_8, .ref h1_9, .ref h1_10, .ref h1_11, .ref h1_12])), (h1_4, .inl (yh1_4, 60, .inl fh1_4))]) [2, 3] (by decide) rfl
        have hKc := hK.sub (tys' := [(yh1_4, .int)]) [1] rfl
        have hFc := va_free (wc := [(h1, .inr (0, [.int h1_0, .int h1_1, .ref h1_2, .ref h1_3, .ref h1_4, .ref h1_5, .ref h1_6, .ref h1_7, .ref h1_8, .ref h1_9, .ref h1_10, .ref h1_11, .ref h1_12])), (h1_4, .inl (yh1_4, 60, .inl fh1_4))]) hD hS hA [2, 3] rfl
        refine va_calli (va_runV (As := [.int my19]) (rest := []) ⟨hx, hb, hml, hown, hts⟩ (s_X0_isSource l dC dI h1 h1_4 h1_0 h1_1 h1_2 h1_3 h1_5 h1_6 h1_7 h1_8 h1_9 h1_10 h1_11 h1_12 yh1_4 fh1_4 my19 HGWy22.size (IV_wk by26 (by decide) (by decide))) (cwV 1 hts gX5_fillSources_X0_isSource rfl rfl rfl (by decide +kernel) ⟨Nat.le_of_ble_eq_true rfl, Nat.le_of_ble_eq_true rfl⟩) ⟨fun a U g mk q => by obtain ⟨q0, q1, qP, qK, qD⟩ := q; exact ⟨q0, q1, qP, va_K.moved (u := U) (U := U.calling g mk a) (Vm.Alike.refl U.vm) qK, qD⟩, va_recv hKc hPc (ci := 0) (q0 := 0) rfl rfl, fun U hU hW => ⟨rfl, by rw [hU], by rw [hU]; exact hPc, va_K.moved hW.alike hKc, hDc.weaken (fun _ _ _ _ => trivial)⟩⟩ rfl rfl hl.1 rfl (lv_room (Nat.le_of_ble_eq_true rfl)) dX5_fillSources_18 ⟨Nat.le_of_ble_eq_true rfl, Nat.le_of_ble_eq_true rfl⟩) hS (fun q _ h => hFc q h) hFc (fun ry29 u t Hy28 locs ht hvm hw hB hz1 hk1 hS => ?_)
        obtain ⟨hP1, hK1, hD1⟩ := hB
        rw [ht] at hP1
        obtain ⟨hP, hD⟩ := va_join (wr := [(h0, .inr (4, [.int h0_0, .long h0_1, .long h0_2, .ref h0_3, .long h0_4])), (h0_3, .inl (yh0_3, 60, .inr (.inl fy21))), (a2, .inl (ya2, 60, .inl fa2))]) (w1 := [(h1, .inr (0, [.int h1_0, .int h1_1, .ref h1_2, .ref h1_3, .ref h1_4, .ref h1_5, .ref h1_6, .ref h1_7, .ref h1_8, .ref h1_9, .ref h1_10, .ref h1_11, .ref h1_12])), (h1_4, .inl (yh1_4, 60, .inl fh1_4))]) hP hD [2, 3] [0, 1, 4] rfl rfl (by decide) (by decide) hk1 hFc hP1 hD1
        have hP := hP.sub (ws' := [(h0, .inr (4, [.int h0_0, .long h0_1, .long h0_2, .ref h0_3, .long h0_4])), (h0_3, .inl (yh0_3, 60, .inr (.inl fy21))), (h1, .inr (0, [.int h1_0, .int h1_1, .ref h1_2, .ref h1_3, .ref h1_4, .ref h1_5, .ref h1_6, .ref h1_7, .ref h1_8, .ref h1_9, .ref h1_10, .ref h1_11, .ref h1_12])), (h1_4, .inl (yh1_4, 60, .inl fh1_4)), (a2, .inl (ya2, 60, .inl fa2))]) [0, 1, 3, 4, 2] rfl
        have hD := hD.sub (ws' := [(h0, .inr (4, [.int h0_0, .long h0_1, .long h0_2, .ref h0_3, .long h0_4])), (h0_3, .inl (yh0_3, 60, .inr (.inl fy21))), (h1, .inr (0, [.int h1_0, .int h1_1, .ref h1_2, .ref h1_3, .ref h1_4, .ref h1_5, .ref h1_6, .ref h1_7, .ref h1_8, .ref h1_9, .ref h1_10, .ref h1_11, .ref h1_12])), (h1_4, .inl (yh1_4, 60, .inl fh1_4)), (a2, .inl (ya2, 60, .inl fa2))]) [0, 1, 3, 4, 2] (by decide) rfl
        have hP : va_P (dC, dI) vwCl [(h0, .inr (4, [.int h0_0, .long h0_1, .long h0_2, .ref h0_3, .long h0_4])), (h0_3, .inl (yh0_3, 60, .inr (.inl fy21))), (h1, .inr (0, [.int h1_0, .int h1_1, .ref h1_2, .ref h1_3, .ref h1_4, .ref h1_5, .ref h1_6, .ref h1_7, .ref h1_8, .ref h1_9, .ref h1_10, .ref h1_11, .ref h1_12])), (h1_4, .inl (yh1_4, 60, .inl fh1_4)), (a2, .inl (ya2, 60, .inl fa2))] Hy28 := hP
        have hD : va_D A [(h0, .inr (4, [.int h0_0, .long h0_1, .long h0_2, .ref h0_3, .long h0_4])), (h0_3, .inl (yh0_3, 60, .inr (.inl fy21))), (h1, .inr (0, [.int h1_0, .int h1_1, .ref h1_2, .ref h1_3, .ref h1_4, .ref h1_5, .ref h1_6, .ref h1_7, .ref h1_8, .ref h1_9, .ref h1_10, .ref h1_11, .ref h1_12])), (h1_4, .inl (yh1_4, 60, .inl fh1_4)), (a2, .inl (ya2, 60, .inl fa2))] := hD
        obtain ⟨by30, hqy31⟩ : IV 0 1 ry29 ∧ (¬ ry29 = 0 → IV 0 59 my19) := hw
        refine lv_if_ne (tgt := 27) hx hb dX5_fillSources_21 (by decide) (fun cy32 => ?_) (fun cy32 => ?_)
        · have h_cy32 := cy32
          have by33 : IV 1 1 ry29 := IV_ne_lo cy32 by30 (IV_mk (a := 0) (b := 0) (by decide) (by decide)) (by decide) (by decide) (by decide)
          refine lv_aload_n hx hb dX5_fillSources_27 rfl (lv_at hl 4 rfl) ?_
          refine lv_iload hx hb dX5_fillSources_28 (lv_at hl 0 rfl) ?_
          refine va_iald hx hb hK hP 4 2 rfl rfl (IV_in by27 (by decide) (by decide)) dX5_fillSources_30 ?_
          refine lv_topi (fun zy34 ezy34 => ?_)
          refine lv_iconst (v := 2) hx hb dX5_fillSources_31 (by decide) ?_
          refine lv_icmp_lt (tgt := 54) hx hb dX5_fillSources_32 (by decide) (fun cy35 => ?_) (fun cy35 => ?_)
          · have h_cy35 := cy35
            have by36 : IV (-2147483648) 1 zy34 := IV_lt_l cy35 (IV_top zy34) (IV_mk (a := 2) (b := 2) (by decide) (by decide)) (by decide) (by decide)
            refine lv_aload_n hx hb dX5_fillSources_54 rfl (lv_at hl 2 rfl) ?_
            refine va_get (D := (dC, dI)) (ci := 4) (v := .ref h0_3) (C := RX5) (T := TX5) (N := 5) hx hb hts inX5_ hown hK hP 0 rfl rfl 3 (by decide) (hts (.fieldLink RX5 9 "GateWheel$Worlds" "rows" "[J") (List.mem_of_getElem? (i := 2) rfl)) (fun _ h9 => h9) rfl dX5_fillSources_55 ?_
            refine lv_iload hx hb dX5_fillSources_58 (lv_at hl 0 rfl) ?_
            refine lv_aload_n hx hb dX5_fillSources_60 rfl (lv_at hl 4 rfl) ?_
            refine lv_iload hx hb dX5_fillSources_61 (lv_at hl 0 rfl) ?_
            refine va_iald hx hb hK hP 4 2 rfl rfl (IV_in by27 (by decide) (by decide)) dX5_fillSources_63 ?_
            rw [← ezy34]
            refine lv_iconst (v := 1) hx hb dX5_fillSources_64 (by decide) ?_
            refine lv_icmp_ne (tgt := 74) hx hb dX5_fillSources_65 (by decide) (fun cy37 => ?_) (fun cy37 => ?_)
            · have h_cy37 := cy37
              have by38 : IV (-2147483648) 0 zy34 := IV_ne_hi cy37 by36 (IV_mk (a := 1) (b := 1) (by decide) (by decide)) (by decide) (by decide) (by decide)
              refine lv_lconst (v := 0) hx hb dX5_fillSources_74 (by decide) ?_
              refine va_last hx hb hK hP hD hS 1 0 rfl rfl (IV_in by27 (by decide) (by decide)) dX5_fillSources_75 (fun Hy39 locs hP hD hS => ?_)
              have hP : va_P (dC, dI) vwCl [(h0, .inr (4, [.int h0_0, .long h0_1, .long h0_2, .ref h0_3, .long h0_4])), (h0_3, .inl (yh0_3, 60, .inr (.inl (vp_updL fy21 (my19 : Int32).toNatClampNeg 0)))), (h1, .inr (0, [.int h1_0, .int h1_1, .ref h1_2, .ref h1_3, .ref h1_4, .ref h1_5, .ref h1_6, .ref h1_7, .ref h1_8, .ref h1_9, .ref h1_10, .ref h1_11, .ref h1_12])), (h1_4, .inl (yh1_4, 60, .inl fh1_4)), (a2, .inl (ya2, 60, .inl fa2))] Hy39 := hP
              have hD : va_D A [(h0, .inr (4, [.int h0_0, .long h0_1, .long h0_2, .ref h0_3, .long h0_4])), (h0_3, .inl (yh0_3, 60, .inr (.inl (vp_updL fy21 (my19 : Int32).toNatClampNeg 0)))), (h1, .inr (0, [.int h1_0, .int h1_1, .ref h1_2, .ref h1_3, .ref h1_4, .ref h1_5, .ref h1_6, .ref h1_7, .ref h1_8, .ref h1_9, .ref h1_10, .ref h1_11, .ref h1_12])), (h1_4, .inl (yh1_4, 60, .inl fh1_4)), (a2, .inl (ya2, 60, .inl fa2))] := hD
              generalize (vp_updL fy21 (my19 : Int32).toNatClampNeg 0) = fy40 at hP hD
              obtain ⟨zy41, ezy41⟩ : ∃ y : Int32, y = my19 + Int32.ofInt 1 := ⟨_, rfl⟩
              have by42 : IV 1 60 zy41 := IV_add (c := 1) (d := 1) ezy41 by27 (IV_mk (by decide) (by decide)) (by decide) (by decide) (by decide) (by decide)
              refine lv_iinc (v := zy41) (lv' := [(5, .int zy41), (4, .int my20), (0, .ref h0), (1, .ref h1), (2, .ref a2), (3, .int p3)]) hx hb dX5_fillSources_76 hl (k := 0) rfl ezy41.symm (by decide) rfl (fun ls hl => ?_)
              refine lv_goto (tgt := 6) hx hb dX5_fillSources_79 (by decide) ?_
              have by43 : IV 0 59 my20 := IV_rel hrl_my20_my19 hmy20 by27 (by decide) (by decide)
              exact (eGy23 _ _ _ _ _).mp (ihGWy22 zy41 my20 fy40 _ _ _ (IV_u1 hmGWy22 (IV_step (c := 1) ezy41 by27 (by decide) (by decide) (by decide)) (by decide)) (IV_wk by42 (by decide) (by decide)) (IV_wk by43 (by decide) (by decide)) (RL_wk (RL_r (d := (-1)) (IV_step (c := 1) ezy41 by27 (by decide) (by decide) (by decide)) hrl_my20_my19 (by decide)) (by decide)) hP hD hS (lv_sub hl [0, 1, 2, 3, 4, 5] rfl))
            · have h_cy37 := cy37
              have by44 : IV 1 1 zy34 := IV_eq_l cy37 by36 (IV_mk (a := 1) (b := 1) (by decide) (by decide)) (by decide) (by decide)
              refine lv_ldc2 hx hb hown (hts (.constantLong RX5 26 (-1)) (List.mem_of_getElem? (i := 3) rfl)) dX5_fillSources_68 ?_
              refine lv_goto (tgt := 75) hx hb dX5_fillSources_71 (by decide) ?_
              refine va_last hx hb hK hP hD hS 1 0 rfl rfl (IV_in by27 (by decide) (by decide)) dX5_fillSources_75 (fun Hy45 locs hP hD hS => ?_)
              have hP : va_P (dC, dI) vwCl [(h0, .inr (4, [.int h0_0, .long h0_1, .long h0_2, .ref h0_3, .long h0_4])), (h0_3, .inl (yh0_3, 60, .inr (.inl (vp_updL fy21 (my19 : Int32).toNatClampNeg (-1))))), (h1, .inr (0, [.int h1_0, .int h1_1, .ref h1_2, .ref h1_3, .ref h1_4, .ref h1_5, .ref h1_6, .ref h1_7, .ref h1_8, .ref h1_9, .ref h1_10, .ref h1_11, .ref h1_12])), (h1_4, .inl (yh1_4, 60, .inl fh1_4)), (a2, .inl (ya2, 60, .inl fa2))] Hy45 := hP
              have hD : va_D A [(h0, .inr (4, [.int h0_0, .long h0_1, .long h0_2, .ref h0_3, .long h0_4])), (h0_3, .inl (yh0_3, 60, .inr (.inl (vp_updL fy21 (my19 : Int32).toNatClampNeg (-1))))), (h1, .inr (0, [.int h1_0, .int h1_1, .ref h1_2, .ref h1_3, .ref h1_4, .ref h1_5, .ref h1_6, .ref h1_7, .ref h1_8, .ref h1_9, .ref h1_10, .ref h1_11, .ref h1_12])), (h1_4, .inl (yh1_4, 60, .inl fh1_4)), (a2, .inl (ya2, 60, .inl fa2))] := hD
              generalize (vp_updL fy21 (my19 : Int32).toNatClampNeg (-1)) = fy46 at hP hD
              obtain ⟨zy47, ezy47⟩ : ∃ y : Int32, y = my19 + Int32.ofInt 1 := ⟨_, rfl⟩
              have by48 : IV 1 60 zy47 := IV_add (c := 1) (d := 1) ezy47 by27 (IV_mk (by decide) (by decide)) (by decide) (by decide) (by decide) (by decide)
              refine lv_iinc (v := zy47) (lv' := [(5, .int zy47), (4, .int my20), (0, .ref h0), (1, .ref h1), (2, .ref a2), (3, .int p3)]) hx hb dX5_fillSources_76 hl (k := 0) rfl ezy47.symm (by decide) rfl (fun ls hl => ?_)
              refine lv_goto (tgt := 6) hx hb dX5_fillSources_79 (by decide) ?_
              have by49 : IV 0 59 my20 := IV_rel hrl_my20_my19 hmy20 by27 (by decide) (by decide)
              exact (eGy23 _ _ _ _ _).mp (ihGWy22 zy47 my20 fy46 _ _ _ (IV_u1 hmGWy22 (IV_step (c := 1) ezy47 by27 (by decide) (by decide) (by decide)) (by decide)) (IV_wk by48 (by decide) (by decide)) (IV_wk by49 (by decide) (by decide)) (RL_wk (RL_r (d := (-1)) (IV_step (c := 1) ezy47 by27 (by decide) (by decide) (by decide)) hrl_my20_my19 (by decide)) (by decide)) hP hD hS (lv_sub hl [0, 1, 2, 3, 4, 5] rfl))
          · have h_cy35 := cy35
            have by50 : IV 2 2147483647 zy34 := IV_nlt_l cy35 (IV_top zy34) (IV_mk (a := 2) (b := 2) (by decide) (by decide)) (by decide) (by decide)
            refine lv_aload_n hx hb dX5_fillSources_35 rfl (lv_at hl 2 rfl) ?_
            refine va_get (D := (dC, dI)) (ci := 4) (v := .ref h0_3) (C := RX5) (T := TX5) (N := 5) hx hb hts inX5_ hown hK hP 0 rfl rfl 3 (by decide) (hts (.fieldLink RX5 9 "GateWheel$Worlds" "rows" "[J") (List.mem_of_getElem? (i := 2) rfl)) (fun _ h9 => h9) rfl dX5_fillSources_36 ?_
            refine lv_iload hx hb dX5_fillSources_39 (lv_at hl 0 rfl) ?_
            refine lv_iload hx hb dX5_fillSources_41 (lv_at hl 1 rfl) ?_
            refine lv_iload_n hx hb dX5_fillSources_43 rfl (lv_at hl 5 rfl) ?_
            have by51 : IV 0 59 my20 := IV_rel hrl_my20_my19 hmy20 by27 (by decide) (by decide)
            have hPc := hP.sub (ws' := []) [] rfl
            have hDc := hD.sub (ws' := []) [] (by decide) rfl
            have hKc := hK.sub (tys' := []) [] rfl
            have hFc := va_free (wc := []) hD hS hA [] rfl
            refine va_calll (va_runS (As := [.int my20, .int p3]) (rest := [.int my19, .ref h0_3]) ⟨hx, hb, hml, hown, hts⟩ (s_X5_freeRow l dC dI my20 p3 tg Hy28.size (IV_wk by51 (by decide) (by decide))) (va_cwS 2 hts gX5_fillSources_X5_freeRow rfl rfl rfl (by decide +kernel) ⟨Nat.le_of_ble_eq_true rfl, Nat.le_of_ble_eq_true rfl⟩) ⟨fun a U g mk q => by obtain ⟨q0, q1, qP, qK, qD, qT⟩ := q; exact ⟨q0, q1, qP, va_K.moved (u := U) (U := U.calling g mk a) (Vm.Alike.refl U.vm) qK, qD, STG_moved (u := U) (U := U.calling g mk a) (Vm.Alike.refl U.vm) qT⟩, fun U hU hW => ⟨rfl, by rw [hU], by rw [hU]; exact hPc, va_K.moved hW.alike hKc, hDc.weaken (fun _ _ _ _ => trivial), by rw [hU]; exact STG_moved hW.alike (STG_narrow (STG_kept hST hS.2.1) hFc)⟩⟩ rfl rfl hl.1 rfl (lv_room (Nat.le_of_ble_eq_true rfl)) dX5_fillSources_44 ⟨Nat.le_of_ble_eq_true rfl, Nat.le_of_ble_eq_true rfl⟩) hS (fun q _ h => hFc q h) hFc (fun ry53 u t Hy52 locs ht hvm hw hB hz1 hk1 hS => ?_)
            obtain ⟨hP1, hK1, hD1⟩ := hB
            rw [ht] at hP1
            obtain ⟨hP, hD⟩ := va_join (wr := [(h0, .inr (4, [.int h0_0, .long h0_1, .long h0_2, .ref h0_3, .long h0_4])), (h0_3, .inl (yh0_3, 60, .inr (.inl fy21))), (h1, .inr (0, [.int h1_0, .int h1_1, .ref h1_2, .ref h1_3, .ref h1_4, .ref h1_5, .ref h1_6, .ref h1_7, .ref h1_8, .ref h1_9, .ref h1_10, .ref h1_11, .ref h1_12])), (h1_4, .inl (yh1_4, 60, .inl fh1_4)), (a2, .inl (ya2, 60, .inl fa2))]) (w1 := []) hP hD [] [0, 1, 2, 3, 4] rfl rfl (by decide) (by decide) hk1 hFc hP1 hD1
            have hP : va_P (dC, dI) vwCl [(h0, .inr (4, [.int h0_0, .long h0_1, .long h0_2, .ref h0_3, .long h0_4])), (h0_3, .inl (yh0_3, 60, .inr (.inl fy21))), (h1, .inr (0, [.int h1_0, .int h1_1, .ref h1_2, .ref h1_3, .ref h1_4, .ref h1_5, .ref h1_6, .ref h1_7, .ref h1_8, .ref h1_9, .ref h1_10, .ref h1_11, .ref h1_12])), (h1_4, .inl (yh1_4, 60, .inl fh1_4)), (a2, .inl (ya2, 60, .inl fa2))] Hy52 := hP
            have hD : va_D A [(h0, .inr (4, [.int h0_0, .long h0_1, .long h0_2, .ref h0_3, .long h0_4])), (h0_3, .inl (yh0_3, 60, .inr (.inl fy21))), (h1, .inr (0, [.int h1_0, .int h1_1, .ref h1_2, .ref h1_3, .ref h1_4, .ref h1_5, .ref h1_6, .ref h1_7, .ref h1_8, .ref h1_9, .ref h1_10, .ref h1_11, .ref h1_12])), (h1_4, .inl (yh1_4, 60, .inl fh1_4)), (a2, .inl (ya2, 60, .inl fa2))] := hD
            refine va_last hx hb hK hP hD hS 1 0 rfl rfl (IV_in by27 (by decide) (by decide)) dX5_fillSources_47 (fun Hy54 locs hP hD hS => ?_)
            have hP : va_P (dC, dI) vwCl [(h0, .inr (4, [.int h0_0, .long h0_1, .long h0_2, .ref h0_3, .long h0_4])), (h0_3, .inl (yh0_3, 60, .inr (.inl (vp_updL fy21 (my19 : Int32).toNatClampNeg ry53)))), (h1, .inr (0, [.int h1_0, .int h1_1, .ref h1_2, .ref h1_3, .ref h1_4, .ref h1_5, .ref h1_6, .ref h1_7, .ref h1_8, .ref h1_9, .ref h1_10, .ref h1_11, .ref h1_12])), (h1_4, .inl (yh1_4, 60, .inl fh1_4)), (a2, .inl (ya2, 60, .inl fa2))] Hy54 := hP
            have hD : va_D A [(h0, .inr (4, [.int h0_0, .long h0_1, .long h0_2, .ref h0_3, .long h0_4])), (h0_3, .inl (yh0_3, 60, .inr (.inl (vp_updL fy21 (my19 : Int32).toNatClampNeg ry53)))), (h1, .inr (0, [.int h1_0, .int h1_1, .ref h1_2, .ref h1_3, .ref h1_4, .ref h1_5, .ref h1_6, .ref h1_7, .ref h1_8, .ref h1_9, .ref h1_10, .ref h1_11, .ref h1_12])), (h1_4, .inl (yh1_4, 60, .inl fh1_4)), (a2, .inl (ya2, 60, .inl fa2))] := hD
            generalize (vp_updL fy21 (my19 : Int32).toNatClampNeg ry53) = fy55 at hP hD
            obtain ⟨zy56, ezy56⟩ : ∃ y : Int32, y = my20 + Int32.ofInt 1 := ⟨_, rfl⟩
            have by57 : IV 1 60 zy56 := IV_add (c := 1) (d := 1) ezy56 by51 (IV_mk (by decide) (by decide)) (by decide) (by decide) (by decide) (by decide)
            refine lv_iinc (v := zy56) (lv' := [(4, .int zy56), (5, .int my19), (0, .ref h0), (1, .ref h1), (2, .ref a2), (3, .int p3)]) hx hb dX5_fillSources_48 hl (k := 1) rfl ezy56.symm (by decide) rfl (fun ls hl => ?_)
            refine lv_goto (tgt := 76) hx hb dX5_fillSources_51 (by decide) ?_
            obtain ⟨zy58, ezy58⟩ : ∃ y : Int32, y = my19 + Int32.ofInt 1 := ⟨_, rfl⟩
            have by59 : IV 1 60 zy58 := IV_add (c := 1) (d := 1) ezy58 by27 (IV_mk (by decide) (by decide)) (by decide) (by decide) (by decide) (by decide)
            refine lv_iinc (v := zy58) (lv' := [(5, .int zy58), (4, .int zy56), (0, .ref h0), (1, .ref h1), (2, .ref a2), (3, .int p3)]) hx hb dX5_fillSources_76 hl (k := 1) rfl ezy58.symm (by decide) rfl (fun ls hl => ?_)
            refine lv_goto (tgt := 6) hx hb dX5_fillSources_79 (by decide) ?_
            exact (eGy23 _ _ _ _ _).mp (ihGWy22 zy58 zy56 fy55 _ _ _ (IV_u1 hmGWy22 (IV_step (c := 1) ezy58 by27 (by decide) (by decide) (by decide)) (by decide)) (IV_wk by59 (by decide) (by decide)) (IV_wk by57 (by decide) (by decide)) (RL_wk (RL_r (d := 0) (IV_step (c := 1) ezy58 by27 (by decide) (by decide) (by decide)) (RL_l (d := 1) (IV_step (c := 1) ezy56 by51 (by decide) (by decide) (by decide)) hrl_my20_my19 (by decide)) (by decide)) (by decide)) hP hD hS (lv_sub hl [0, 1, 2, 3, 4, 5] rfl))
        · have h_cy32 := cy32
          have by60 : IV 0 0 ry29 := IV_eq_l cy32 by30 (IV_mk (a := 0) (b := 0) (by decide) (by decide)) (by decide) (by decide)
          refine lv_goto (tgt := 76) hx hb dX5_fillSources_24 (by decide) ?_
          obtain ⟨zy61, ezy61⟩ : ∃ y : Int32, y = my19 + Int32.ofInt 1 := ⟨_, rfl⟩
          have by62 : IV 1 60 zy61 := IV_add (c := 1) (d := 1) ezy61 by27 (IV_mk (by decide) (by decide)) (by decide) (by decide) (by decide) (by decide)
          refine lv_iinc (v := zy61) (lv' := [(5, .int zy61), (4, .int my20), (0, .ref h0), (1, .ref h1), (2, .ref a2), (3, .int p3)]) hx hb dX5_fillSources_76 hl (k := 0) rfl ezy61.symm (by decide) rfl (fun ls hl => ?_)
          refine lv_goto (tgt := 6) hx hb dX5_fillSources_79 (by decide) ?_
          have by63 : IV 0 59 my20 := IV_rel hrl_my20_my19 hmy20 by27 (by decide) (by decide)
          exact (eGy23 _ _ _ _ _).mp (ihGWy22 zy61 my20 fy21 _ _ _ (IV_u1 hmGWy22 (IV_step (c := 1) ezy61 by27 (by decide) (by decide) (by decide)) (by decide)) (IV_wk by62 (by decide) (by decide)) (IV_wk by63 (by decide) (by decide)) (RL_wk (RL_r (d := (-1)) (IV_step (c := 1) ezy61 by27 (by decide) (by decide) (by decide)) hrl_my20_my19 (by decide)) (by decide)) hP hD hS (lv_sub hl [0, 1, 2, 3, 4, 5] rfl))
  exact lpy24 61 0 0 fh0_3 _ _ _ (IV_ui (IV_mk (a := 0) (b := 0) (by decide) (by decide)) (by decide)) (IV_mk (by decide) (by decide)) (IV_mk (by decide) (by decide)) (RL_wk (RL_iv (c := 0) (IV_mk (a := 0) (b := 0) (by decide) (by decide)) (IV_mk (a := 0) (b := 0) (by decide) (by decide)) (by decide)) (by decide)) hP hD hS (lv_sub hl [0, 1, 2, 3, 4, 5] rfl)

set_option maxHeartbeats 4000000 in
set_option maxRecDepth 100000 in
theorem s_X5_join (l : Launch) (dC : Nat → ClassId) (dI : Nat → Nat → Nat) (p1 : Int32) (p2 : Int64) (p3 : Int64) (sz : Nat) : Met l yX5_join wsX5_join ({ frames := 0, cells := 0, slots := 0, locals := 0 }) (va_Pc [.int p1, .long p2, .long p3] (fun U => U.heap.size = sz ∧ va_P (dC, dI) vwCl [] U.heap ∧ va_K (dC, dI) vwCl [] U ∧ va_D (fun _ => True) [])) (va_Ql (fun (r : Int64) (_ : Unit) => True) (fun (_ : Unit) (t : State) => va_P (dC, dI) vwCl [] t.heap ∧ va_K (dC, dI) vwCl [] t ∧ va_D (va_A [] sz) []) (va_A [] sz)) 0 0 (va_A [] sz) := by
  refine Met.ofW (cc := cX5_join) (maxL := 5) (ret := (some .long)) (by decide +kernel) rfl ?_
  intro p e s m args below meth c s₁ B hml hv
  obtain ⟨rfl, hsz, hP, hK, hD0⟩ := hv
  have hx := B.exec
  have hb := B.bytes
  have hr := B.returns
  have hts := atoms_spec (ws := wsX5_join) B.pre
  have hown : s.vm.findClass RX5 = some m.cls := findClass_of_methodNamed B.named
  have hlocks := B.notSynchronized
  subst hsz
  have hD := hD0.self (sz := s.heap.size)
  generalize hAe : va_A [] s.heap.size = A at hD ⊢
  have hA : ∀ q : Nat, s.heap.size ≤ q → A q := fun q h => by rw [← hAe]; exact Or.inr h
  have hS : va_S A s.heap s.heap [] := va_S.rf
  have hP : va_P (dC, dI) vwCl [] s.heap := hP
  have hl := lv_entry ([.int p1, .long p2, .long p3]) (n := 5) (Nat.le_of_ble_eq_true rfl)
  rw [lg_entry_eq]
  generalize (lg_sl ([.int p1, .long p2, .long p3]) ++ List.replicate (5 - (lg_sl ([.int p1, .long p2, .long p3])).length) Slot.unset).toArray = ls at hl ⊢
  have hl : lv_has ls 5 [(0, .int p1), (1, .long p2), (3, .long p3)] := hl
  refine lv_iload_n hx hb dX5_join_0 rfl (lv_at hl 0 rfl) ?_
  by_cases ky1 : p1 = 2
  · have kk := ky1
    refine lv_lookup (off := 27) (tgt := 28) hx hb dX5_join_1 (by decide) (by rw [ky1]; rfl) (by decide) ?_
    refine lv_lload_n hx hb dX5_join_28 rfl (lv_at hl 1 rfl) ?_
    refine lv_lload_n hx hb dX5_join_29 rfl (lv_at hl 2 rfl) ?_
    refine lv_lor hx hb dX5_join_30 ?_
    refine lv_topl (fun zy2 ezy2 => ?_)
    exact W.lret (v := zy2) hx hb hr (fun t ht hW => ⟨⟨zy2, (), rfl, trivial, by rw [ht]; exact hP, va_K.moved hW.alike hK, hD⟩, hS.F ht⟩) hS.2.2 dX5_join_31
  by_cases ky3 : p1 = 4
  · have kk := ky3
    refine lv_lookup (off := 31) (tgt := 32) hx hb dX5_join_1 (by decide) (by rw [ky3]; rfl) (by decide) ?_
    refine lv_lload_n hx hb dX5_join_32 rfl (lv_at hl 1 rfl) ?_
    refine lv_lload_n hx hb dX5_join_33 rfl (lv_at hl 2 rfl) ?_
    refine lv_lxor hx hb dX5_join_34 ?_
    refine lv_topl (fun zy4 ezy4 => ?_)
    exact W.lret (v := zy4) hx hb hr (fun t ht hW => ⟨⟨zy4, (), rfl, trivial, by rw [ht]; exact hP, va_K.moved hW.alike hK, hD⟩, hS.F ht⟩) hS.2.2 dX5_join_35
  refine lv_lookup (off := 35) (tgt := 36) hx hb dX5_join_1 (by decide) ((lv_osw ky1 (by decide)).trans ((lv_osw ky3 (by decide)).trans rfl)) (by decide) ?_
  refine lv_lload_n hx hb dX5_join_36 rfl (lv_at hl 1 rfl) ?_
  refine lv_lload_n hx hb dX5_join_37 rfl (lv_at hl 2 rfl) ?_
  refine lv_land hx hb dX5_join_38 ?_
  refine lv_topl (fun zy5 ezy5 => ?_)
  exact W.lret (v := zy5) hx hb hr (fun t ht hW => ⟨⟨zy5, (), rfl, trivial, by rw [ht]; exact hP, va_K.moved hW.alike hK, hD⟩, hS.F ht⟩) hS.2.2 dX5_join_39

set_option maxHeartbeats 4000000 in
set_option maxRecDepth 100000 in
theorem s_X5_gateRow (l : Launch) (dC : Nat → ClassId) (dI : Nat → Nat → Nat) (h0 : Nat) (h0_3 : Nat) (h1 : Nat) (h1_4 : Nat) (h1_5 : Nat) (h1_7 : Nat) (h1_8 : Nat) (h0_0 : Int32) (h0_1 : Int64) (h0_2 : Int64) (h0_4 : Int64) (yh0_3 : ClassId) (fh0_3 : Nat → Int64) (h1_0 : Int32) (h1_1 : Int32) (h1_2 : Nat) (h1_3 : Nat) (h1_6 : Nat) (h1_9 : Nat) (h1_10 : Nat) (h1_11 : Nat) (h1_12 : Nat) (yh1_4 : ClassId) (fh1_4 : Nat → Int32) (yh1_5 : ClassId) (fh1_5 : Nat → Int32) (yh1_7 : ClassId) (fh1_7 : Nat → Int32) (yh1_8 : ClassId) (fh1_8 : Nat → Int32) (p2 : Int32) (sz : Nat) (hy_h1_0 : IV 0 60 h1_0) (hy_p2 : IV 0 59 p2) (hy_fh1_7 : AR 0 59 fh1_7) (hy_fh1_8 : AR 0 12 fh1_8) : Met l yX5_gateRow wsX5_gateRow ({ frames := 1, cells := 0, slots := 0, locals := 24 }) (va_Pc [.ref h0, .ref h1, .int p2] (fun U => U.heap.size = sz ∧ va_P (dC, dI) vwCl [(h0, .inr (4, [.int h0_0, .long h0_1, .long h0_2, .ref h0_3, .long h0_4])), (h0_3, .inl (yh0_3, 60, .inr (.inl fh0_3))), (h1, .inr (0, [.int h1_0, .int h1_1, .ref h1_2, .ref h1_3, .ref h1_4, .ref h1_5, .ref h1_6, .ref h1_7, .ref h1_8, .ref h1_9, .ref h1_10, .ref h1_11, .ref h1_12])), (h1_4, .inl (yh1_4, 60, .inl fh1_4)), (h1_5, .inl (yh1_5, 60, .inl fh1_5)), (h1_7, .inl (yh1_7, 720, .inl fh1_7)), (h1_8, .inl (yh1_8, 60, .inl fh1_8))] U.heap ∧ va_K (dC, dI) vwCl [(yh0_3, .long), (yh1_4, .int), (yh1_5, .int), (yh1_7, .int), (yh1_8, .int)] U ∧ va_D (fun _ => True) [(h0, .inr (4, [.int h0_0, .long h0_1, .long h0_2, .ref h0_3, .long h0_4])), (h0_3, .inl (yh0_3, 60, .inr (.inl fh0_3))), (h1, .inr (0, [.int h1_0, .int h1_1, .ref h1_2, .ref h1_3, .ref h1_4, .ref h1_5, .ref h1_6, .ref h1_7, .ref h1_8, .ref h1_9, .ref h1_10, .ref h1_11, .ref h1_12])), (h1_4, .inl (yh1_4, 60, .inl fh1_4)), (h1_5, .inl (yh1_5, 60, .inl fh1_5)), (h1_7, .inl (yh1_7, 720, .inl fh1_7)), (h1_8, .inl (yh1_8, 60, .inl fh1_8))])) (va_Ql (fun (r : Int64) (_ : Unit) => True) (fun (_ : Unit) (t : State) => va_P (dC, dI) vwCl [(h0, .inr (4, [.int h0_0, .long h0_1, .long h0_2, .ref h0_3, .long h0_4])), (h0_3, .inl (yh0_3, 60, .inr (.inl fh0_3))), (h1, .inr (0, [.int h1_0, .int h1_1, .ref h1_2, .ref h1_3, .ref h1_4, .ref h1_5, .ref h1_6, .ref h1_7, .ref h1_8, .ref h1_9, .ref h1_10, .ref h1_11, .ref h1_12])), (h1_4, .inl (yh1_4, 60, .inl fh1_4)), (h1_5, .inl (yh1_5, 60, .inl fh1_5)), (h1_7, .inl (yh1_7, 720, .inl fh1_7)), (h1_8, .inl (yh1_8, 60, .inl fh1_8))] t.heap ∧ va_K (dC, dI) vwCl [(yh0_3, .long), (yh1_4, .int), (yh1_5, .int), (yh1_7, .int), (yh1_8, .int)] t ∧ va_D (va_A [(h0, .inr (4, [.int h0_0, .long h0_1, .long h0_2, .ref h0_3, .long h0_4])), (h0_3, .inl (yh0_3, 60, .inr (.inl fh0_3))), (h1, .inr (0, [.int h1_0, .int h1_1, .ref h1_2, .ref h1_3, .ref h1_4, .ref h1_5, .ref h1_6, .ref h1_7, .ref h1_8, .ref h1_9, .ref h1_10, .ref h1_11, .ref h1_12])), (h1_4, .inl (yh1_4, 60, .inl fh1_4)), (h1_5, .inl (yh1_5, 60, .inl fh1_5)), (h1_7, .inl (yh1_7, 720, .inl fh1_7)), (h1_8, .inl (yh1_8, 60, .inl fh1_8))] sz) [(h0, .inr (4, [.int h0_0, .long h0_1, .long h0_2, .ref h0_3, .long h0_4])), (h0_3, .inl (yh0_3, 60, .inr (.inl fh0_3))), (h1, .inr (0, [.int h1_0, .int h1_1, .ref h1_2, .ref h1_3, .ref h1_4, .ref h1_5, .ref h1_6, .ref h1_7, .ref h1_8, .ref h1_9, .ref h1_10, .ref h1_11, .ref h1_12])), (h1_4, .inl (yh1_4, 60, .inl fh1_4)), (h1_5, .inl (yh1_5, 60, .inl fh1_5)), (h1_7, .inl (yh1_7, 720, .inl fh1_7)), (h1_8, .inl (yh1_8, 60, .inl fh1_8))]) (va_A [(h0, .inr (4, [.int h0_0, .long h0_1, .long h0_2, .ref h0_3, .long h0_4])), (h0_3, .inl (yh0_3, 60, .inr (.inl fh0_3))), (h1, .inr (0, [.int h1_0, .int h1_1, .ref h1_2, .ref h1_3, .ref h1_4, .ref h1_5, .ref h1_6, .ref h1_7, .ref h1_8, .ref h1_9, .ref h1_10, .ref h1_11, .ref h1_12])), (h1_4, .inl (yh1_4, 60, .inl fh1_4)), (h1_5, .inl (yh1_5, 60, .inl fh1_5)), (h1_7, .inl (yh1_7, 720, .inl fh1_7)), (h1_8, .inl (yh1_8, 60, .inl fh1_8))] sz)) 0 0 (va_A [(h0, .inr (4, [.int h0_0, .long h0_1, .long h0_2, .ref h0_3, .long h0_4])), (h0_3, .inl (yh0_3, 60, .inr (.inl fh0_3))), (h1, .inr (0, [.int h1_0, .int h1_1, .ref h1_2, .ref h1_3, .ref h1_4, .ref h1_5, .ref h1_6, .ref h1_7, .ref h1_8, .ref h1_9, .ref h1_10, .ref h1_11, .ref h1_12])), (h1_4, .inl (yh1_4, 60, .inl fh1_4)), (h1_5, .inl (yh1_5, 60, .inl fh1_5)), (h1_7, .inl (yh1_7, 720, .inl fh1_7)), (h1_8, .inl (yh1_8, 60, .inl fh1_8))] sz) := by
  refine Met.ofW (cc := cX5_gateRow) (maxL := 8) (ret := (some .long)) (by decide +kernel) rfl ?_
  intro p e s m args below meth c s₁ B hml hv
  obtain ⟨rfl, hsz, hP, hK, hD0⟩ := hv
  have hx := B.exec
  have hb := B.bytes
  have hr := B.returns
  have hts := atoms_spec (ws := wsX5_gateRow) B.pre
  have hown : s.vm.findClass RX5 = some m.cls := findClass_of_methodNamed B.named
  have hlocks := B.notSynchronized
  have inX0_ : ∀ w ∈ wsX00, w ∈ wsX5_gateRow := fun _ h => List.mem_cons_of_mem _ (List.mem_append_left _ (List.mem_append_right _ h))
  have inX5_ : ∀ w ∈ wsX50, w ∈ wsX5_gateRow := fun _ h => List.mem_cons_of_mem _ (List.mem_append_right _ h)
  subst hsz
  have hD := hD0.self (sz := s.heap.size)
  generalize hAe : va_A [(h0, .inr (4, [.int h0_0, .long h0_1, .long h0_2, .ref h0_3, .long h0_4])), (h0_3, .inl (yh0_3, 60, .inr (.inl fh0_3))), (h1, .inr (0, [.int h1_0, .int h1_1, .ref h1_2, .ref h1_3, .ref h1_4, .ref h1_5, .ref h1_6, .ref h1_7, .ref h1_8, .ref h1_9, .ref h1_10, .ref h1_11, .ref h1_12])), (h1_4, .inl (yh1_4, 60, .inl fh1_4)), (h1_5, .inl (yh1_5, 60, .inl fh1_5)), (h1_7, .inl (yh1_7, 720, .inl fh1_7)), (h1_8, .inl (yh1_8, 60, .inl fh1_8))] s.heap.size = A at hD ⊢
  have hA : ∀ q : Nat, s.heap.size ≤ q → A q := fun q h => by rw [← hAe]; exact Or.inr h
  have hS : va_S A s.heap s.heap [] := va_S.rf
  have hP : va_P (dC, dI) vwCl [(h0, .inr (4, [.int h0_0, .long h0_1, .long h0_2, .ref h0_3, .long h0_4])), (h0_3, .inl (yh0_3, 60, .inr (.inl fh0_3))), (h1, .inr (0, [.int h1_0, .int h1_1, .ref h1_2, .ref h1_3, .ref h1_4, .ref h1_5, .ref h1_6, .ref h1_7, .ref h1_8, .ref h1_9, .ref h1_10, .ref h1_11, .ref h1_12])), (h1_4, .inl (yh1_4, 60, .inl fh1_4)), (h1_5, .inl (yh1_5, 60, .inl fh1_5)), (h1_7, .inl (yh1_7, 720, .inl fh1_7)), (h1_8, .inl (yh1_8, 60, .inl fh1_8))] s.heap := hP
  have hl := lv_entry ([.ref h0, .ref h1, .int p2]) (n := 8) (Nat.le_of_ble_eq_true rfl)
  rw [lg_entry_eq]
  generalize (lg_sl ([.ref h0, .ref h1, .int p2]) ++ List.replicate (8 - (lg_sl ([.ref h0, .ref h1, .int p2])).length) Slot.unset).toArray = ls at hl ⊢
  have hl : lv_has ls 8 [(0, .ref h0), (1, .ref h1), (2, .int p2)] := hl
  refine lv_aload_n hx hb dX5_gateRow_0 rfl (lv_at hl 1 rfl) ?_
  refine va_get (D := (dC, dI)) (ci := 0) (v := .ref h1_5) (C := RX0) (T := TX0) (N := 13) hx hb hts inX0_ hown hK hP 2 rfl rfl 5 (by decide) (hts (.fieldLink RX5 76 "GateWheel$Circuit" "gates" "[I") (List.mem_of_getElem? (i := 1) rfl)) (fun _ h9 => h9) rfl dX5_gateRow_1 ?_
  refine lv_iload_n hx hb dX5_gateRow_4 rfl (lv_at hl 2 rfl) ?_
  refine va_iald hx hb hK hP 4 2 rfl rfl (IV_in hy_p2 (by decide) (by decide)) dX5_gateRow_5 ?_
  refine lv_topi (fun zy1 ezy1 => ?_)
  refine lv_istore_n (lv' := [(3, .int zy1), (0, .ref h0), (1, .ref h1), (2, .int p2)]) hx hb dX5_gateRow_6 rfl hl (by decide) rfl (fun ls hl => ?_)
  refine lv_aload_n hx hb dX5_gateRow_7 rfl (lv_at hl 1 rfl) ?_
  refine va_get (D := (dC, dI)) (ci := 4) (v := .ref h0_3) (C := RX5) (T := TX5) (N := 5) hx hb hts inX5_ hown hK hP 0 rfl rfl 3 (by decide) (hts (.fieldLink RX5 9 "GateWheel$Worlds" "rows" "[J") (List.mem_of_getElem? (i := 2) rfl)) (fun _ h9 => h9) rfl dX5_gateRow_8 ?_
  refine lv_aload_n hx hb dX5_gateRow_11 rfl (lv_at hl 2 rfl) ?_
  refine lv_iload_n hx hb dX5_gateRow_12 rfl (lv_at hl 3 rfl) ?_
  refine lv_iconst (v := 0) hx hb dX5_gateRow_13 (by decide) ?_
  have hPc := hP.sub (ws' := [(h1, .inr (0, [.int h1_0, .int h1_1, .ref h1_2, .ref h1_3, .ref h1_4, .ref h1_5, .ref h1_6, .ref h1_7, .ref h1_8, .ref h1_9, .ref h1_10, .ref h1_11, .ref h1_12])), (h1_7, .inl (yh1_7, 720, .inl fh1_7))]) [2, 5] rfl
  have hDc := hD.sub (ws' := [(h1, .inr (0, [.int h1_0, .int h1_1, .ref h1_2, .ref h1_3, .ref h1_4, .ref h1_5, .ref h1_6, .ref h1_7, .ref h1_8, .ref h1_9, .ref h1_10, .ref h1_11, .ref h1_12])), (h1_7, .inl (yh1_7, 720, .inl fh1_7))]) [2, 5] (by decide) rfl
  have hKc := hK.sub (tys' := [(yh1_7, .int)]) [3] rfl
  have hFc := va_free (wc := [(h1, .inr (0, [.int h1_0, .int h1_1, .ref h1_2, .ref h1_3, .ref h1_4, .ref h1_5, .ref h1_6, .ref h1_7, .ref h1_8, .ref h1_9, .ref h1_10, .ref h1_11, .ref h1_12])), (h1_7, .inl (yh1_7, 720, .inl fh1_7))]) hD hS hA [2, 5] rfl
  refine va_calli (va_runV (As := [.int p2, .int 0]) (rest := [.ref h0_3]) ⟨hx, hb, hml, hown, hts⟩ (s_X0_part l dC dI h1 h1_7 h1_0 h1_1 h1_2 h1_3 h1_4 h1_5 h1_6 h1_8 h1_9 h1_10 h1_11 h1_12 yh1_7 fh1_7 p2 0 s.heap.size hy_h1_0 hy_p2 (IV_mk (by decide) (by decide)) hy_fh1_7) (cwV 2 hts gX5_gateRow_X0_part rfl rfl rfl (by decide +kernel) ⟨Nat.le_of_ble_eq_true rfl, Nat.le_of_ble_eq_true rfl⟩) ⟨fun a U g mk q => by obtain ⟨q0, q1, qP, qK, qD⟩ := q; exact ⟨q0, q1, qP, va_K.moved (u := U) (U := U.calling g mk a) (Vm.Alike.refl U.vm) qK, qD⟩, va_recv hKc hPc (ci := 0) (q0 := 0) rfl rfl, fun U hU hW => ⟨rfl, by rw [hU], by rw [hU]; exact hPc, va_K.moved hW.alike hKc, hDc.weaken (fun _ _ _ _ => trivial)⟩⟩ rfl rfl hl.1 rfl (lv_room (Nat.le_of_ble_eq_true rfl)) dX5_gateRow_14 ⟨Nat.le_of_ble_eq_true rfl, Nat.le_of_ble_eq_true rfl⟩) hS (fun q _ h => hFc q h) hFc (fun ry3 u t Hy2 locs ht hvm hw hB hz1 hk1 hS => ?_)
  obtain ⟨hP1, hK1, hD1⟩ := hB
  rw [ht] at hP1
  obtain ⟨hP, hD⟩ := va_join (wr := [(h0, .inr (4, [.int h0_0, .long h0_1, .long h0_2, .ref h0_3, .long h0_4])), (h0_3, .inl (yh0_3, 60, .inr (.inl fh0_3))), (h1_4, .inl (yh1_4, 60, .inl fh1_4)), (h1_5, .inl (yh1_5, 60, .inl fh1_5)), (h1_8, .inl (yh1_8, 60, .inl fh1_8))]) (w1 := [(h1, .inr (0, [.int h1_0, .int h1_1, .ref h1_2, .ref h1_3, .ref h1_4, .ref h1_5, .ref h1_6, .ref h1_7, .ref h1_8, .ref h1_9, .ref h1_10, .ref h1_11, .ref h1_12])), (h1_7, .inl (yh1_7, 720, .inl fh1_7))]) hP hD [2, 5] [0, 1, 3, 4, 6] rfl rfl (by decide) (by decide) hk1 hFc hP1 hD1
  have hP := hP.sub (ws' := [(h0, .inr (4, [.int h0_0, .long h0_1, .long h0_2, .ref h0_3, .long h0_4])), (h0_3, .inl (yh0_3, 60, .inr (.inl fh0_3))), (h1, .inr (0, [.int h1_0, .int h1_1, .ref h1_2, .ref h1_3, .ref h1_4, .ref h1_5, .ref h1_6, .ref h1_7, .ref h1_8, .ref h1_9, .ref h1_10, .ref h1_11, .ref h1_12])), (h1_4, .inl (yh1_4, 60, .inl fh1_4)), (h1_5, .inl (yh1_5, 60, .inl fh1_5)), (h1_7, .inl (yh1_7, 720, .inl fh1_7)), (h1_8, .inl (yh1_8, 60, .inl fh1_8))]) [0, 1, 5, 2, 3, 6, 4] rfl
  have hD := hD.sub (ws' := [(h0, .inr (4, [.int h0_0, .long h0_1, .long h0_2, .ref h0_3, .long h0_4])), (h0_3, .inl (yh0_3, 60, .inr (.inl fh0_3))), (h1, .inr (0, [.int h1_0, .int h1_1, .ref h1_2, .ref h1_3, .ref h1_4, .ref h1_5, .ref h1_6, .ref h1_7, .ref h1_8, .ref h1_9, .ref h1_10, .ref h1_11, .ref h1_12])), (h1_4, .inl (yh1_4, 60, .inl fh1_4)), (h1_5, .inl (yh1_5, 60, .inl fh1_5)), (h1_7, .inl (yh1_7, 720, .inl fh1_7)), (h1_8, .inl (yh1_8, 60, .inl fh1_8))]) [0, 1, 5, 2, 3, 6, 4] (by decide) rfl
  have hP : va_P (dC, dI) vwCl [(h0, .inr (4, [.int h0_0, .long h0_1, .long h0_2, .ref h0_3, .long h0_4])), (h0_3, .inl (yh0_3, 60, .inr (.inl fh0_3))), (h1, .inr (0, [.int h1_0, .int h1_1, .ref h1_2, .ref h1_3, .ref h1_4, .ref h1_5, .ref h1_6, .ref h1_7, .ref h1_8, .ref h1_9, .ref h1_10, .ref h1_11, .ref h1_12])), (h1_4, .inl (yh1_4, 60, .inl fh1_4)), (h1_5, .inl (yh1_5, 60, .inl fh1_5)), (h1_7, .inl (yh1_7, 720, .inl fh1_7)), (h1_8, .inl (yh1_8, 60, .inl fh1_8))] Hy2 := hP
  have hD : va_D A [(h0, .inr (4, [.int h0_0, .long h0_1, .long h0_2, .ref h0_3, .long h0_4])), (h0_3, .inl (yh0_3, 60, .inr (.inl fh0_3))), (h1, .inr (0, [.int h1_0, .int h1_1, .ref h1_2, .ref h1_3, .ref h1_4, .ref h1_5, .ref h1_6, .ref h1_7, .ref h1_8, .ref h1_9, .ref h1_10, .ref h1_11, .ref h1_12])), (h1_4, .inl (yh1_4, 60, .inl fh1_4)), (h1_5, .inl (yh1_5, 60, .inl fh1_5)), (h1_7, .inl (yh1_7, 720, .inl fh1_7)), (h1_8, .inl (yh1_8, 60, .inl fh1_8))] := hD
  have by4 : IV 0 59 ry3 := hw
  refine va_lald hx hb hK hP 1 0 rfl rfl (IV_in by4 (by decide) (by decide)) dX5_gateRow_17 ?_
  refine lv_topl (fun zy5 ezy5 => ?_)
  refine lv_lstore (lv' := [(4, .long zy5), (3, .int zy1), (0, .ref h0), (1, .ref h1), (2, .int p2)]) hx hb dX5_gateRow_18 hl (by decide) rfl (fun ls hl => ?_)
  refine lv_iload_n hx hb dX5_gateRow_20 rfl (lv_at hl 1 rfl) ?_
  refine lv_bipush (v := 8) hx hb dX5_gateRow_21 (by decide) ?_
  refine lv_icmp_ne (tgt := 60) hx hb dX5_gateRow_23 (by decide) (fun cy6 => ?_) (fun cy6 => ?_)
  · have h_cy6 := cy6
    refine lv_aload_n hx hb dX5_gateRow_60 rfl (lv_at hl 3 rfl) ?_
    refine lv_iload_n hx hb dX5_gateRow_61 rfl (lv_at hl 4 rfl) ?_
    have hPc := hP.sub (ws' := [(h1, .inr (0, [.int h1_0, .int h1_1, .ref h1_2, .ref h1_3, .ref h1_4, .ref h1_5, .ref h1_6, .ref h1_7, .ref h1_8, .ref h1_9, .ref h1_10, .ref h1_11, .ref h1_12])), (h1_4, .inl (yh1_4, 60, .inl fh1_4)), (h1_8, .inl (yh1_8, 60, .inl fh1_8))]) [2, 3, 6] rfl
    have hDc := hD.sub (ws' := [(h1, .inr (0, [.int h1_0, .int h1_1, .ref h1_2, .ref h1_3, .ref h1_4, .ref h1_5, .ref h1_6, .ref h1_7, .ref h1_8, .ref h1_9, .ref h1_10, .ref h1_11, .ref h1_12])), (h1_4, .inl (yh1_4, 60, .inl fh1_4)), (h1_8, .inl (yh1_8, 60, .inl fh1_8))]) [2, 3, 6] (by decide) rfl
    have hKc := hK.sub (tys' := [(yh1_4, .int), (yh1_8, .int)]) [1, 4] rfl
    have hFc := va_free (wc := [(h1, .inr (0, [.int h1_0, .int h1_1, .ref h1_2, .ref h1_3, .ref h1_4, .ref h1_5, .ref h1_6, .ref h1_7, .ref h1_8, .ref h1_9, .ref h1_10, .ref h1_11, .ref h1_12])), (h1_4, .inl (yh1_4, 60, .inl fh1_4)), (h1_8, .inl (yh1_8, 60, .inl fh1_8))]) hD hS hA [2, 3, 6] rfl
    refine va_calli (va_runV (As := [.int p2]) (rest := []) ⟨hx, hb, hml, hown, hts⟩ (s_X0_size l dC dI h1 h1_4 h1_8 h1_0 h1_1 h1_2 h1_3 h1_5 h1_6 h1_7 h1_9 h1_10 h1_11 h1_12 yh1_4 fh1_4 yh1_8 fh1_8 p2 Hy2.size hy_h1_0 hy_p2 hy_fh1_8) (cwV 1 hts gX5_gateRow_X0_size rfl rfl rfl (by decide +kernel) ⟨Nat.le_of_ble_eq_true rfl, Nat.le_of_ble_eq_true rfl⟩) ⟨fun a U g mk q => by obtain ⟨q0, q1, qP, qK, qD⟩ := q; exact ⟨q0, q1, qP, va_K.moved (u := U) (U := U.calling g mk a) (Vm.Alike.refl U.vm) qK, qD⟩, va_recv hKc hPc (ci := 0) (q0 := 0) rfl rfl, fun U hU hW => ⟨rfl, by rw [hU], by rw [hU]; exact hPc, va_K.moved hW.alike hKc, hDc.weaken (fun _ _ _ _ => trivial)⟩⟩ rfl rfl hl.1 rfl (lv_room (Nat.le_of_ble_eq_true rfl)) dX5_gateRow_62 ⟨Nat.le_of_ble_eq_true rfl, Nat.le_of_ble_eq_true rfl⟩) hS (fun q _ h => hFc q h) hFc (fun ry8 u t Hy7 locs ht hvm hw hB hz1 hk1 hS => ?_)
    obtain ⟨hP1, hK1, hD1⟩ := hB
    rw [ht] at hP1
    obtain ⟨hP, hD⟩ := va_join (wr := [(h0, .inr (4, [.int h0_0, .long h0_1, .long h0_2, .ref h0_3, .long h0_4])), (h0_3, .inl (yh0_3, 60, .inr (.inl fh0_3))), (h1_5, .inl (yh1_5, 60, .inl fh1_5)), (h1_7, .inl (yh1_7, 720, .inl fh1_7))]) (w1 := [(h1, .inr (0, [.int h1_0, .int h1_1, .ref h1_2, .ref h1_3, .ref h1_4, .ref h1_5, .ref h1_6, .ref h1_7, .ref h1_8, .ref h1_9, .ref h1_10, .ref h1_11, .ref h1_12])), (h1_4, .inl (yh1_4, 60, .inl fh1_4)), (h1_8, .inl (yh1_8, 60, .inl fh1_8))]) hP hD [2, 3, 6] [0, 1, 4, 5] rfl rfl (by decide) (by decide) hk1 hFc hP1 hD1
    have hP := hP.sub (ws' := [(h0, .inr (4, [.int h0_0, .long h0_1, .long h0_2, .ref h0_3, .long h0_4])), (h0_3, .inl (yh0_3, 60, .inr (.inl fh0_3))), (h1, .inr (0, [.int h1_0, .int h1_1, .ref h1_2, .ref h1_3, .ref h1_4, .ref h1_5, .ref h1_6, .ref h1_7, .ref h1_8, .ref h1_9, .ref h1_10, .ref h1_11, .ref h1_12])), (h1_4, .inl (yh1_4, 60, .inl fh1_4)), (h1_5, .inl (yh1_5, 60, .inl fh1_5)), (h1_7, .inl (yh1_7, 720, .inl fh1_7)), (h1_8, .inl (yh1_8, 60, .inl fh1_8))]) [0, 1, 4, 5, 2, 3, 6] rfl
    have hD := hD.sub (ws' := [(h0, .inr (4, [.int h0_0, .long h0_1, .long h0_2, .ref h0_3, .long h0_4])), (h0_3, .inl (yh0_3, 60, .inr (.inl fh0_3))), (h1, .inr (0, [.int h1_0, .int h1_1, .ref h1_2, .ref h1_3, .ref h1_4, .ref h1_5, .ref h1_6, .ref h1_7, .ref h1_8, .ref h1_9, .ref h1_10, .ref h1_11, .ref h1_12])), (h1_4, .inl (yh1_4, 60, .inl fh1_4)), (h1_5, .inl (yh1_5, 60, .inl fh1_5)), (h1_7, .inl (yh1_7, 720, .inl fh1_7)), (h1_8, .inl (yh1_8, 60, .inl fh1_8))]) [0, 1, 4, 5, 2, 3, 6] (by decide) rfl
    have hP : va_P (dC, dI) vwCl [(h0, .inr (4, [.int h0_0, .long h0_1, .long h0_2, .ref h0_3, .long h0_4])), (h0_3, .inl (yh0_3, 60, .inr (.inl fh0_3))), (h1, .inr (0, [.int h1_0, .int h1_1, .ref h1_2, .ref h1_3, .ref h1_4, .ref h1_5, .ref h1_6, .ref h1_7, .ref h1_8, .ref h1_9, .ref h1_10, .ref h1_11, .ref h1_12])), (h1_4, .inl (yh1_4, 60, .inl fh1_4)), (h1_5, .inl (yh1_5, 60, .inl fh1_5)), (h1_7, .inl (yh1_7, 720, .inl fh1_7)), (h1_8, .inl (yh1_8, 60, .inl fh1_8))] Hy7 := hP
    have hD : va_D A [(h0, .inr (4, [.int h0_0, .long h0_1, .long h0_2, .ref h0_3, .long h0_4])), (h0_3, .inl (yh0_3, 60, .inr (.inl fh0_3))), (h1, .inr (0, [.int h1_0, .int h1_1, .ref h1_2, .ref h1_3, .ref h1_4, .ref h1_5, .ref h1_6, .ref h1_7, .ref h1_8, .ref h1_9, .ref h1_10, .ref h1_11, .ref h1_12])), (h1_4, .inl (yh1_4, 60, .inl fh1_4)), (h1_5, .inl (yh1_5, 60, .inl fh1_5)), (h1_7, .inl (yh1_7, 720, .inl fh1_7)), (h1_8, .inl (yh1_8, 60, .inl fh1_8))] := hD
    have by9 : IV 0 12 ry8 := hw
    refine lv_istore (lv' := [(6, .int ry8), (4, .long zy5), (3, .int zy1), (0, .ref h0), (1, .ref h1), (2, .int p2)]) hx hb dX5_gateRow_65 hl (by decide) rfl (fun ls hl => ?_)
    refine lv_iconst (v := 1) hx hb dX5_gateRow_67 (by decide) ?_
    refine lv_istore (lv' := [(7, .int 1), (6, .int ry8), (4, .long zy5), (3, .int zy1), (0, .ref h0), (1, .ref h1), (2, .int p2)]) hx hb dX5_gateRow_68 hl (by decide) rfl (fun ls hl => ?_)
    refine W_abs (fun GWy16 eGy17 => ?_)
    have lpy18 : ∀ (n : Nat) (my14 : Int32) (my15 : Int64) (HGWy16 : Heap) (locs : List Loc) (ls : Array Slot), 13 - my14.toInt ≤ (n : Int) → IV 1 12 my14 → va_P (dC, dI) vwCl [(h0, .inr (4, [.int h0_0, .long h0_1, .long h0_2, .ref h0_3, .long h0_4])), (h0_3, .inl (yh0_3, 60, .inr (.inl fh0_3))), (h1, .inr (0, [.int h1_0, .int h1_1, .ref h1_2, .ref h1_3, .ref h1_4, .ref h1_5, .ref h1_6, .ref h1_7, .ref h1_8, .ref h1_9, .ref h1_10, .ref h1_11, .ref h1_12])), (h1_4, .inl (yh1_4, 60, .inl fh1_4)), (h1_5, .inl (yh1_5, 60, .inl fh1_5)), (h1_7, .inl (yh1_7, 720, .inl fh1_7)), (h1_8, .inl (yh1_8, 60, .inl fh1_8))] HGWy16 → va_D A [(h0, .inr (4, [.int h0_0, .long h0_1, .long h0_2, .ref h0_3, .long h0_4])), (h0_3, .inl (yh0_3, 60, .inr (.inl fh0_3))), (h1, .inr (0, [.int h1_0, .int h1_1, .ref h1_2, .ref h1_3, .ref h1_4, .ref h1_5, .ref h1_6, .ref h1_7, .ref h1_8, .ref h1_9, .ref h1_10, .ref h1_11, .ref h1_12])), (h1_4, .inl (yh1_4, 60, .inl fh1_4)), (h1_5, .inl (yh1_5, 60, .inl fh1_5)), (h1_7, .inl (yh1_7, 720, .inl fh1_7)), (h1_8, .inl (yh1_8, 60, .inl fh1_8))] → va_S A s.heap HGWy16 locs → lv_has ls 8 [(7, .int my14), (6, .int ry8), (4, .long my15), (3, .int zy1), (0, .ref h0), (1, .ref h1), (2, .int p2)] → GWy16 HGWy16 locs 0 0 (F0 m 70 ls []) := by
      intro n
      induction n with
      | zero =>
        intro my14 my15 HGWy16 locs ls hmGWy16 hmy14 hP hD hS hl
        exact (IV_u0 hmy14 hmGWy16 (by decide)).elim
      | succ n ihGWy16 =>
        intro my14 my15 HGWy16 locs ls hmGWy16 hmy14 hP hD hS hl
        refine (eGy17 _ _ _ _ _).mpr ?_
        refine lv_iload hx hb dX5_gateRow_70 (lv_at hl 0 rfl) ?_
        refine lv_iload hx hb dX5_gateRow_72 (lv_at hl 1 rfl) ?_
        refine lv_icmp_ge (tgt := 106) hx hb dX5_gateRow_74 (by decide) (fun cy19 => ?_) (fun cy19 => ?_)
        · have h_cy19 := cy19
          refine lv_iload_n hx hb dX5_gateRow_106 rfl (lv_at hl 3 rfl) ?_
          have hPc := hP.sub (ws' := []) [] rfl
          have hDc := hD.sub (ws' := []) [] (by decide) rfl
          have hKc := hK.sub (tys' := []) [] rfl
          have hFc := va_free (wc := []) hD hS hA [] rfl
          refine va_calli (va_runS (As := [.int zy1]) (rest := []) ⟨hx, hb, hml, hown, hts⟩ (s_X2_isTurned l dC dI zy1 HGWy16.size) (va_cwS 1 hts gX5_gateRow_X2_isTurned rfl rfl rfl (by decide +kernel) ⟨Nat.le_of_ble_eq_true rfl, Nat.le_of_ble_eq_true rfl⟩) ⟨fun a U g mk q => by obtain ⟨q0, q1, qP, qK, qD⟩ := q; exact ⟨q0, q1, qP, va_K.moved (u := U) (U := U.calling g mk a) (Vm.Alike.refl U.vm) qK, qD⟩, fun U hU hW => ⟨rfl, by rw [hU], by rw [hU]; exact hPc, va_K.moved hW.alike hKc, hDc.weaken (fun _ _ _ _ => trivial)⟩⟩ rfl rfl hl.1 rfl (lv_room (Nat.le_of_ble_eq_true rfl)) dX5_gateRow_107 ⟨Nat.le_of_ble_eq_true rfl, Nat.le_of_ble_eq_true rfl⟩) hS (fun q _ h => hFc q h) hFc (fun ry21 u t Hy20 locs ht hvm hw hB hz1 hk1 hS => ?_)
          obtain ⟨hP1, hK1, hD1⟩ := hB
          rw [ht] at hP1
          obtain ⟨hP, hD⟩ := va_join (wr := [(h0, .inr (4, [.int h0_0, .long h0_1, .long h0_2, .ref h0_3, .long h0_4])), (h0_3, .inl (yh0_3, 60, .inr (.inl fh0_3))), (h1, .inr (0, [.int h1_0, .int h1_1, .ref h1_2, .ref h1_3, .ref h1_4, .ref h1_5, .ref h1_6, .ref h1_7, .ref h1_8, .ref h1_9, .ref h1_10, .ref h1_11, .ref h1_12])), (h1_4, .inl (yh1_4, 60, .inl fh1_4)), (h1_5, .inl (yh1_5, 60, .inl fh1_5)), (h1_7, .inl (yh1_7, 720, .inl fh1_7)), (h1_8, .inl (yh1_8, 60, .inl fh1_8))]) (w1 := []) hP hD [] [0, 1, 2, 3, 4, 5, 6] rfl rfl (by decide) (by decide) hk1 hFc hP1 hD1
          have hP : va_P (dC, dI) vwCl [(h0, .inr (4, [.int h0_0, .long h0_1, .long h0_2, .ref h0_3, .long h0_4])), (h0_3, .inl (yh0_3, 60, .inr (.inl fh0_3))), (h1, .inr (0, [.int h1_0, .int h1_1, .ref h1_2, .ref h1_3, .ref h1_4, .ref h1_5, .ref h1_6, .ref h1_7, .ref h1_8, .ref h1_9, .ref h1_10, .ref h1_11, .ref h1_12])), (h1_4, .inl (yh1_4, 60, .inl fh1_4)), (h1_5, .inl (yh1_5, 60, .inl fh1_5)), (h1_7, .inl (yh1_7, 720, .inl fh1_7)), (h1_8, .inl (yh1_8, 60, .inl fh1_8))] Hy20 := hP
          have hD : va_D A [(h0, .inr (4, [.int h0_0, .long h0_1, .long h0_2, .ref h0_3, .long h0_4])), (h0_3, .inl (yh0_3, 60, .inr (.inl fh0_3))), (h1, .inr (0, [.int h1_0, .int h1_1, .ref h1_2, .ref h1_3, .ref h1_4, .ref h1_5, .ref h1_6, .ref h1_7, .ref h1_8, .ref h1_9, .ref h1_10, .ref h1_11, .ref h1_12])), (h1_4, .inl (yh1_4, 60, .inl fh1_4)), (h1_5, .inl (yh1_5, 60, .inl fh1_5)), (h1_7, .inl (yh1_7, 720, .inl fh1_7)), (h1_8, .inl (yh1_8, 60, .inl fh1_8))] := hD
          have by22 : IV 0 1 ry21 := hw
          refine lv_if_eq (tgt := 122) hx hb dX5_gateRow_110 (by decide) (fun cy23 => ?_) (fun cy23 => ?_)
          · have h_cy23 := cy23
            have by24 : IV 0 0 ry21 := IV_eq_l cy23 by22 (IV_mk (a := 0) (b := 0) (by decide) (by decide)) (by decide) (by decide)
            refine lv_lload hx hb dX5_gateRow_122 (lv_at hl 2 rfl) ?_
            exact W.lret (v := my15) hx hb hr (fun t ht hW => ⟨⟨my15, (), rfl, trivial, by rw [ht]; exact hP, va_K.moved hW.alike hK, hD⟩, hS.F ht⟩) hS.2.2 dX5_gateRow_124
          · have h_cy23 := cy23
            have by25 : IV 1 1 ry21 := IV_ne_lo cy23 by22 (IV_mk (a := 0) (b := 0) (by decide) (by decide)) (by decide) (by decide) (by decide)
            refine lv_lload hx hb dX5_gateRow_113 (lv_at hl 2 rfl) ?_
            refine lv_ldc2 hx hb hown (hts (.constantLong RX5 26 (-1)) (List.mem_of_getElem? (i := 3) rfl)) dX5_gateRow_115 ?_
            refine lv_lxor hx hb dX5_gateRow_118 ?_
            refine lv_topl (fun zy26 ezy26 => ?_)
            refine lv_goto (tgt := 124) hx hb dX5_gateRow_119 (by decide) ?_
            exact W.lret (v := zy26) hx hb hr (fun t ht hW => ⟨⟨zy26, (), rfl, trivial, by rw [ht]; exact hP, va_K.moved hW.alike hK, hD⟩, hS.F ht⟩) hS.2.2 dX5_gateRow_124
        · have h_cy19 := cy19
          have by27 : IV 2 12 ry8 := IV_nle_l cy19 by9 hmy14 (by decide) (by decide)
          have by28 : IV 1 11 my14 := IV_nle_r cy19 by9 hmy14 (by decide) (by decide)
          refine lv_iload_n hx hb dX5_gateRow_77 rfl (lv_at hl 3 rfl) ?_
          refine lv_bipush (v := (-2)) hx hb dX5_gateRow_78 (by decide) ?_
          refine lv_iand hx hb dX5_gateRow_80 ?_
          refine lv_topi (fun zy29 ezy29 => ?_)
          refine lv_lload hx hb dX5_gateRow_81 (lv_at hl 2 rfl) ?_
          refine lv_aload_n hx hb dX5_gateRow_83 rfl (lv_at hl 4 rfl) ?_
          refine va_get (D := (dC, dI)) (ci := 4) (v := .ref h0_3) (C := RX5) (T := TX5) (N := 5) hx hb hts inX5_ hown hK hP 0 rfl rfl 3 (by decide) (hts (.fieldLink RX5 9 "GateWheel$Worlds" "rows" "[J") (List.mem_of_getElem? (i := 2) rfl)) (fun _ h9 => h9) rfl dX5_gateRow_84 ?_
          refine lv_aload_n hx hb dX5_gateRow_87 rfl (lv_at hl 5 rfl) ?_
          refine lv_iload_n hx hb dX5_gateRow_88 rfl (lv_at hl 6 rfl) ?_
          refine lv_iload hx hb dX5_gateRow_89 (lv_at hl 0 rfl) ?_
          have hPc := hP.sub (ws' := [(h1, .inr (0, [.int h1_0, .int h1_1, .ref h1_2, .ref h1_3, .ref h1_4, .ref h1_5, .ref h1_6, .ref h1_7, .ref h1_8, .ref h1_9, .ref h1_10, .ref h1_11, .ref h1_12])), (h1_7, .inl (yh1_7, 720, .inl fh1_7))]) [2, 5] rfl
          have hDc := hD.sub (ws' := [(h1, .inr (0, [.int h1_0, .int h1_1, .ref h1_2, .ref h1_3, .ref h1_4, .ref h1_5, .ref h1_6, .ref h1_7, .ref h1_8, .ref h1_9, .ref h1_10, .ref h1_11, .ref h1_12])), (h1_7, .inl (yh1_7, 720, .inl fh1_7))]) [2, 5] (by decide) rfl
          have hKc := hK.sub (tys' := [(yh1_7, .int)]) [3] rfl
          have hFc := va_free (wc := [(h1, .inr (0, [.int h1_0, .int h1_1, .ref h1_2, .ref h1_3, .ref h1_4, .ref h1_5, .ref h1_6, .ref h1_7, .ref h1_8, .ref h1_9, .ref h1_10, .ref h1_11, .ref h1_12])), (h1_7, .inl (yh1_7, 720, .inl fh1_7))]) hD hS hA [2, 5] rfl
          refine va_calli (va_runV (As := [.int p2, .int my14]) (rest := [.ref h0_3, .long my15, .int zy29]) ⟨hx, hb, hml, hown, hts⟩ (s_X0_part l dC dI h1 h1_7 h1_0 h1_1 h1_2 h1_3 h1_4 h1_5 h1_6 h1_8 h1_9 h1_10 h1_11 h1_12 yh1_7 fh1_7 p2 my14 HGWy16.size hy_h1_0 hy_p2 (IV_wk by28 (by decide) (by decide)) hy_fh1_7) (cwV 2 hts gX5_gateRow_X0_part rfl rfl rfl (by decide +kernel) ⟨Nat.le_of_ble_eq_true rfl, Nat.le_of_ble_eq_true rfl⟩) ⟨fun a U g mk q => by obtain ⟨q0, q1, qP, qK, qD⟩ := q; exact ⟨q0, q1, qP, va_K.moved (u := U) (U := U.calling g mk a) (Vm.Alike.refl U.vm) qK, qD⟩, va_recv hKc hPc (ci := 0) (q0 := 0) rfl rfl, fun U hU hW => ⟨rfl, by rw [hU], by rw [hU]; exact hPc, va_K.moved hW.alike hKc, hDc.weaken (fun _ _ _ _ => trivial)⟩⟩ rfl rfl hl.1 rfl (lv_room (Nat.le_of_ble_eq_true rfl)) dX5_gateRow_91 ⟨Nat.le_of_ble_eq_true rfl, Nat.le_of_ble_eq_true rfl⟩) hS (fun q _ h => hFc q h) hFc (fun ry31 u t Hy30 locs ht hvm hw hB hz1 hk1 hS => ?_)
          obtain ⟨hP1, hK1, hD1⟩ := hB
          rw [ht] at hP1
          obtain ⟨hP, hD⟩ := va_join (wr := [(h0, .inr (4, [.int h0_0, .long h0_1, .long h0_2, .ref h0_3, .long h0_4])), (h0_3, .inl (yh0_3, 60, .inr (.inl fh0_3))), (h1_4, .inl (yh1_4, 60, .inl fh1_4)), (h1_5, .inl (yh1_5, 60, .inl fh1_5)), (h1_8, .inl (yh1_8, 60, .inl fh1_8))]) (w1 := [(h1, .inr (0, [.int h1_0, .int h1_1, .ref h1_2, .ref h1_3, .ref h1_4, .ref h1_5, .ref h1_6, .ref h1_7, .ref h1_8, .ref h1_9, .ref h1_10, .ref h1_11, .ref h1_12])), (h1_7, .inl (yh1_7, 720, .inl fh1_7))]) hP hD [2, 5] [0, 1, 3, 4, 6] rfl rfl (by decide) (by decide) hk1 hFc hP1 hD1
          have hP := hP.sub (ws' := [(h0, .inr (4, [.int h0_0, .long h0_1, .long h0_2, .ref h0_3, .long h0_4])), (h0_3, .inl (yh0_3, 60, .inr (.inl fh0_3))), (h1, .inr (0, [.int h1_0, .int h1_1, .ref h1_2, .ref h1_3, .ref h1_4, .ref h1_5, .ref h1_6, .ref h1_7, .ref h1_8, .ref h1_9, .ref h1_10, .ref h1_11, .ref h1_12])), (h1_4, .inl (yh1_4, 60, .inl fh1_4)), (h1_5, .inl (yh1_5, 60, .inl fh1_5)), (h1_7, .inl (yh1_7, 720, .inl fh1_7)), (h1_8, .inl (yh1_8, 60, .inl fh1_8))]) [0, 1, 5, 2, 3, 6, 4] rfl
          have hD := hD.sub (ws' := [(h0, .inr (4, [.int h0_0, .long h0_1, .long h0_2, .ref h0_3, .long h0_4])), (h0_3, .inl (yh0_3, 60, .inr (.inl fh0_3))), (h1, .inr (0, [.int h1_0, .int h1_1, .ref h1_2, .ref h1_3, .ref h1_4, .ref h1_5, .ref h1_6, .ref h1_7, .ref h1_8, .ref h1_9, .ref h1_10, .ref h1_11, .ref h1_12])), (h1_4, .inl (yh1_4, 60, .inl fh1_4)), (h1_5, .inl (yh1_5, 60, .inl fh1_5)), (h1_7, .inl (yh1_7, 720, .inl fh1_7)), (h1_8, .inl (yh1_8, 60, .inl fh1_8))]) [0, 1, 5, 2, 3, 6, 4] (by decide) rfl
          have hP : va_P (dC, dI) vwCl [(h0, .inr (4, [.int h0_0, .long h0_1, .long h0_2, .ref h0_3, .long h0_4])), (h0_3, .inl (yh0_3, 60, .inr (.inl fh0_3))), (h1, .inr (0, [.int h1_0, .int h1_1, .ref h1_2, .ref h1_3, .ref h1_4, .ref h1_5, .ref h1_6, .ref h1_7, .ref h1_8, .ref h1_9, .ref h1_10, .ref h1_11, .ref h1_12])), (h1_4, .inl (yh1_4, 60, .inl fh1_4)), (h1_5, .inl (yh1_5, 60, .inl fh1_5)), (h1_7, .inl (yh1_7, 720, .inl fh1_7)), (h1_8, .inl (yh1_8, 60, .inl fh1_8))] Hy30 := hP
          have hD : va_D A [(h0, .inr (4, [.int h0_0, .long h0_1, .long h0_2, .ref h0_3, .long h0_4])), (h0_3, .inl (yh0_3, 60, .inr (.inl fh0_3))), (h1, .inr (0, [.int h1_0, .int h1_1, .ref h1_2, .ref h1_3, .ref h1_4, .ref h1_5, .ref h1_6, .ref h1_7, .ref h1_8, .ref h1_9, .ref h1_10, .ref h1_11, .ref h1_12])), (h1_4, .inl (yh1_4, 60, .inl fh1_4)), (h1_5, .inl (yh1_5, 60, .inl fh1_5)), (h1_7, .inl (yh1_7, 720, .inl fh1_7)), (h1_8, .inl (yh1_8, 60, .inl fh1_8))] := hD
          have by32 : IV 0 59 ry31 := hw
          refine va_lald hx hb hK hP 1 0 rfl rfl (IV_in by32 (by decide) (by decide)) dX5_gateRow_94 ?_
          refine lv_topl (fun zy33 ezy33 => ?_)
          have hPc := hP.sub (ws' := []) [] rfl
          have hDc := hD.sub (ws' := []) [] (by decide) rfl
          have hKc := hK.sub (tys' := []) [] rfl
          have hFc := va_free (wc := []) hD hS hA [] rfl
          refine va_calll (va_runS (As := [.int zy29, .long my15, .long zy33]) (rest := []) ⟨hx, hb, hml, hown, hts⟩ (s_X5_join l dC dI zy29 my15 zy33 Hy30.size) (va_cwS 3 hts gX5_gateRow_X5_join rfl rfl rfl (by decide +kernel) ⟨Nat.le_of_ble_eq_true rfl, Nat.le_of_ble_eq_true rfl⟩) ⟨fun a U g mk q => by obtain ⟨q0, q1, qP, qK, qD⟩ := q; exact ⟨q0, q1, qP, va_K.moved (u := U) (U := U.calling g mk a) (Vm.Alike.refl U.vm) qK, qD⟩, fun U hU hW => ⟨rfl, by rw [hU], by rw [hU]; exact hPc, va_K.moved hW.alike hKc, hDc.weaken (fun _ _ _ _ => trivial)⟩⟩ rfl rfl hl.1 rfl (lv_room (Nat.le_of_ble_eq_true rfl)) dX5_gateRow_95 ⟨Nat.le_of_ble_eq_true rfl, Nat.le_of_ble_eq_true rfl⟩) hS (fun q _ h => hFc q h) hFc (fun ry35 u t Hy34 locs ht hvm hw hB hz1 hk1 hS => ?_)
          obtain ⟨hP1, hK1, hD1⟩ := hB
          rw [ht] at hP1
          obtain ⟨hP, hD⟩ := va_join (wr := [(h0, .inr (4, [.int h0_0, .long h0_1, .long h0_2, .ref h0_3, .long h0_4])), (h0_3, .inl (yh0_3, 60, .inr (.inl fh0_3))), (h1, .inr (0, [.int h1_0, .int h1_1, .ref h1_2, .ref h1_3, .ref h1_4, .ref h1_5, .ref h1_6, .ref h1_7, .ref h1_8, .ref h1_9, .ref h1_10, .ref h1_11, .ref h1_12])), (h1_4, .inl (yh1_4, 60, .inl fh1_4)), (h1_5, .inl (yh1_5, 60, .inl fh1_5)), (h1_7, .inl (yh1_7, 720, .inl fh1_7)), (h1_8, .inl (yh1_8, 60, .inl fh1_8))]) (w1 := []) hP hD [] [0, 1, 2, 3, 4, 5, 6] rfl rfl (by decide) (by decide) hk1 hFc hP1 hD1
          have hP : va_P (dC, dI) vwCl [(h0, .inr (4, [.int h0_0, .long h0_1, .long h0_2, .ref h0_3, .long h0_4])), (h0_3, .inl (yh0_3, 60, .inr (.inl fh0_3))), (h1, .inr (0, [.int h1_0, .int h1_1, .ref h1_2, .ref h1_3, .ref h1_4, .ref h1_5, .ref h1_6, .ref h1_7, .ref h1_8, .ref h1_9, .ref h1_10, .ref h1_11, .ref h1_12])), (h1_4, .inl (yh1_4, 60, .inl fh1_4)), (h1_5, .inl (yh1_5, 60, .inl fh1_5)), (h1_7, .inl (yh1_7, 720, .inl fh1_7)), (h1_8, .inl (yh1_8, 60, .inl fh1_8))] Hy34 := hP
          have hD : va_D A [(h0, .inr (4, [.int h0_0, .long h0_1, .long h0_2, .ref h0_3, .long h0_4])), (h0_3, .inl (yh0_3, 60, .inr (.inl fh0_3))), (h1, .inr (0, [.int h1_0, .int h1_1, .ref h1_2, .ref h1_3, .ref h1_4, .ref h1_5, .ref h1_6, .ref h1_7, .ref h1_8, .ref h1_9, .ref h1_10, .ref h1_11, .ref h1_12])), (h1_4, .inl (yh1_4, 60, .inl fh1_4)), (h1_5, .inl (yh1_5, 60, .inl fh1_5)), (h1_7, .inl (yh1_7, 720, .inl fh1_7)), (h1_8, .inl (yh1_8, 60, .inl fh1_8))] := hD
          refine lv_lstore (lv' := [(4, .long ry35), (7, .int my14), (6, .int ry8), (3, .int zy1), (0, .ref h0), (1, .ref h1), (2, .int p2)]) hx hb dX5_gateRow_98 hl (by decide) rfl (fun ls hl => ?_)
          obtain ⟨zy36, ezy36⟩ : ∃ y : Int32, y = my14 + Int32.ofInt 1 := ⟨_, rfl⟩
          have by37 : IV 2 12 zy36 := IV_add (c := 1) (d := 1) ezy36 by28 (IV_mk (by decide) (by decide)) (by decide) (by decide) (by decide) (by decide)
          refine lv_iinc (v := zy36) (lv' := [(7, .int zy36), (4, .long ry35), (6, .int ry8), (3, .int zy1), (0, .ref h0), (1, .ref h1), (2, .int p2)]) hx hb dX5_gateRow_100 hl (k := 1) rfl ezy36.symm (by decide) rfl (fun ls hl => ?_)
          refine lv_goto (tgt := 70) hx hb dX5_gateRow_103 (by decide) ?_
          exact (eGy17 _ _ _ _ _).mp (ihGWy16 zy36 ry35 _ _ _ (IV_u1 hmGWy16 (IV_step (c := 1) ezy36 by28 (by decide) (by decide) (by decide)) (by decide)) (IV_wk by37 (by decide) (by decide)) hP hD hS (lv_sub hl [0, 2, 1, 3, 4, 5, 6] rfl))
    exact lpy18 12 1 zy5 _ _ _ (IV_ui (IV_mk (a := 1) (b := 1) (by decide) (by decide)) (by decide)) (IV_mk (by decide) (by decide)) hP hD hS (lv_sub hl [0, 1, 2, 3, 4, 5, 6] rfl)
  · have h_cy6 := cy6
    have by38 : IV 8 8 zy1 := IV_eq_l cy6 (IV_top zy1) (IV_mk (a := 8) (b := 8) (by decide) (by decide)) (by decide) (by decide)
    refine lv_lload hx hb dX5_gateRow_26 (lv_at hl 0 rfl) ?_
    refine lv_ldc2 hx hb hown (hts (.constantLong RX5 26 (-1)) (List.mem_of_getElem? (i := 3) rfl)) dX5_gateRow_28 ?_
    refine lv_lxor hx hb dX5_gateRow_31 ?_
    refine lv_topl (fun zy39 ezy39 => ?_)
    refine lv_aload_n hx hb dX5_gateRow_32 rfl (lv_at hl 2 rfl) ?_
    refine va_get (D := (dC, dI)) (ci := 4) (v := .ref h0_3) (C := RX5) (T := TX5) (N := 5) hx hb hts inX5_ hown hK hP 0 rfl rfl 3 (by decide) (hts (.fieldLink RX5 9 "GateWheel$Worlds" "rows" "[J") (List.mem_of_getElem? (i := 2) rfl)) (fun _ h9 => h9) rfl dX5_gateRow_33 ?_
    refine lv_aload_n hx hb dX5_gateRow_36 rfl (lv_at hl 3 rfl) ?_
    refine lv_iload_n hx hb dX5_gateRow_37 rfl (lv_at hl 4 rfl) ?_
    refine lv_iconst (v := 1) hx hb dX5_gateRow_38 (by decide) ?_
    have hPc := hP.sub (ws' := [(h1, .inr (0, [.int h1_0, .int h1_1, .ref h1_2, .ref h1_3, .ref h1_4, .ref h1_5, .ref h1_6, .ref h1_7, .ref h1_8, .ref h1_9, .ref h1_10, .ref h1_11, .ref h1_12])), (h1_7, .inl (yh1_7, 720, .inl fh1_7))]) [2, 5] rfl
    have hDc := hD.sub (ws' := [(h1, .inr (0, [.int h1_0, .int h1_1, .ref h1_2, .ref h1_3, .ref h1_4, .ref h1_5, .ref h1_6, .ref h1_7, .ref h1_8, .ref h1_9, .ref h1_10, .ref h1_11, .ref h1_12])), (h1_7, .inl (yh1_7, 720, .inl fh1_7))]) [2, 5] (by decide) rfl
    have hKc := hK.sub (tys' := [(yh1_7, .int)]) [3] rfl
    have hFc := va_free (wc := [(h1, .inr (0, [.int h1_0, .int h1_1, .ref h1_2, .ref h1_3, .ref h1_4, .ref h1_5, .ref h1_6, .ref h1_7, .ref h1_8, .ref h1_9, .ref h1_10, .ref h1_11, .ref h1_12])), (h1_7, .inl (yh1_7, 720, .inl fh1_7))]) hD hS hA [2, 5] rfl
    refine va_calli (va_runV (As := [.int p2, .int 1]) (rest := [.ref h0_3, .long zy39]) ⟨hx, hb, hml, hown, hts⟩ (s_X0_part l dC dI h1 h1_7 h1_0 h1_1 h1_2 h1_3 h1_4 h1_5 h1_6 h1_8 h1_9 h1_10 h1_11 h1_12 yh1_7 fh1_7 p2 1 Hy2.size hy_h1_0 hy_p2 (IV_mk (by decide) (by decide)) hy_fh1_7) (cwV 2 hts gX5_gateRow_X0_part rfl rfl rfl (by decide +kernel) ⟨Nat.le_of_ble_eq_true rfl, Nat.le_of_ble_eq_true rfl⟩) ⟨fun a U g mk q => by obtain ⟨q0, q1, qP, qK, qD⟩ := q; exact ⟨q0, q1, qP, va_K.moved (u := U) (U := U.calling g mk a) (Vm.Alike.refl U.vm) qK, qD⟩, va_recv hKc hPc (ci := 0) (q0 := 0) rfl rfl, fun U hU hW => ⟨rfl, by rw [hU], by rw [hU]; exact hPc, va_K.moved hW.alike hKc, hDc.weaken (fun _ _ _ _ => trivial)⟩⟩ rfl rfl hl.1 rfl (lv_room (Nat.le_of_ble_eq_true rfl)) dX5_gateRow_39 ⟨Nat.le_of_ble_eq_true rfl, Nat.le_of_ble_eq_true rfl⟩) hS (fun q _ h => hFc q h) hFc (fun ry41 u t Hy40 locs ht hvm hw hB hz1 hk1 hS => ?_)
    obtain ⟨hP1, hK1, hD1⟩ := hB
    rw [ht] at hP1
    obtain ⟨hP, hD⟩ := va_join (wr := [(h0, .inr (4, [.int h0_0, .long h0_1, .long h0_2, .ref h0_3, .long h0_4])), (h0_3, .inl (yh0_3, 60, .inr (.inl fh0_3))), (h1_4, .inl (yh1_4, 60, .inl fh1_4)), (h1_5, .inl (yh1_5, 60, .inl fh1_5)), (h1_8, .inl (yh1_8, 60, .inl fh1_8))]) (w1 := [(h1, .inr (0, [.int h1_0, .int h1_1, .ref h1_2, .ref h1_3, .ref h1_4, .ref h1_5, .ref h1_6, .ref h1_7, .ref h1_8, .ref h1_9, .ref h1_10, .ref h1_11, .ref h1_12])), (h1_7, .inl (yh1_7, 720, .inl fh1_7))]) hP hD [2, 5] [0, 1, 3, 4, 6] rfl rfl (by decide) (by decide) hk1 hFc hP1 hD1
    have hP := hP.sub (ws' := [(h0, .inr (4, [.int h0_0, .long h0_1, .long h0_2, .ref h0_3, .long h0_4])), (h0_3, .inl (yh0_3, 60, .inr (.inl fh0_3))), (h1, .inr (0, [.int h1_0, .int h1_1, .ref h1_2, .ref h1_3, .ref h1_4, .ref h1_5, .ref h1_6, .ref h1_7, .ref h1_8, .ref h1_9, .ref h1_10, .ref h1_11, .ref h1_12])), (h1_4, .inl (yh1_4, 60, .inl fh1_4)), (h1_5, .inl (yh1_5, 60, .inl fh1_5)), (h1_7, .inl (yh1_7, 720, .inl fh1_7)), (h1_8, .inl (yh1_8, 60, .inl fh1_8))]) [0, 1, 5, 2, 3, 6, 4] rfl
    have hD := hD.sub (ws' := [(h0, .inr (4, [.int h0_0, .long h0_1, .long h0_2, .ref h0_3, .long h0_4])), (h0_3, .inl (yh0_3, 60, .inr (.inl fh0_3))), (h1, .inr (0, [.int h1_0, .int h1_1, .ref h1_2, .ref h1_3, .ref h1_4, .ref h1_5, .ref h1_6, .ref h1_7, .ref h1_8, .ref h1_9, .ref h1_10, .ref h1_11, .ref h1_12])), (h1_4, .inl (yh1_4, 60, .inl fh1_4)), (h1_5, .inl (yh1_5, 60, .inl fh1_5)), (h1_7, .inl (yh1_7, 720, .inl fh1_7)), (h1_8, .inl (yh1_8, 60, .inl fh1_8))]) [0, 1, 5, 2, 3, 6, 4] (by decide) rfl
    have hP : va_P (dC, dI) vwCl [(h0, .inr (4, [.int h0_0, .long h0_1, .long h0_2, .ref h0_3, .long h0_4])), (h0_3, .inl (yh0_3, 60, .inr (.inl fh0_3))), (h1, .inr (0, [.int h1_0, .int h1_1, .ref h1_2, .ref h1_3, .ref h1_4, .ref h1_5, .ref h1_6, .ref h1_7, .ref h1_8, .ref h1_9, .ref h1_10, .ref h1_11, .ref h1_12])), (h1_4, .inl (yh1_4, 60, .inl fh1_4)), (h1_5, .inl (yh1_5, 60, .inl fh1_5)), (h1_7, .inl (yh1_7, 720, .inl fh1_7)), (h1_8, .inl (yh1_8, 60, .inl fh1_8))] Hy40 := hP
    have hD : va_D A [(h0, .inr (4, [.int h0_0, .long h0_1, .long h0_2, .ref h0_3, .long h0_4])), (h0_3, .inl (yh0_3, 60, .inr (.inl fh0_3))), (h1, .inr (0, [.int h1_0, .int h1_1, .ref h1_2, .ref h1_3, .ref h1_4, .ref h1_5, .ref h1_6, .ref h1_7, .ref h1_8, .ref h1_9, .ref h1_10, .ref h1_11, .ref h1_12])), (h1_4, .inl (yh1_4, 60, .inl fh1_4)), (h1_5, .inl (yh1_5, 60, .inl fh1_5)), (h1_7, .inl (yh1_7, 720, .inl fh1_7)), (h1_8, .inl (yh1_8, 60, .inl fh1_8))] := hD
    have by42 : IV 0 59 ry41 := hw
    refine va_lald hx hb hK hP 1 0 rfl rfl (IV_in by42 (by decide) (by decide)) dX5_gateRow_42 ?_
    refine lv_topl (fun zy43 ezy43 => ?_)
    refine lv_land hx hb dX5_gateRow_43 ?_
    refine lv_topl (fun zy44 ezy44 => ?_)
    refine lv_lload hx hb dX5_gateRow_44 (lv_at hl 0 rfl) ?_
    refine lv_aload_n hx hb dX5_gateRow_46 rfl (lv_at hl 2 rfl) ?_
    refine va_get (D := (dC, dI)) (ci := 4) (v := .ref h0_3) (C := RX5) (T := TX5) (N := 5) hx hb hts inX5_ hown hK hP 0 rfl rfl 3 (by decide) (hts (.fieldLink RX5 9 "GateWheel$Worlds" "rows" "[J") (List.mem_of_getElem? (i := 2) rfl)) (fun _ h9 => h9) rfl dX5_gateRow_47 ?_
    refine lv_aload_n hx hb dX5_gateRow_50 rfl (lv_at hl 3 rfl) ?_
    refine lv_iload_n hx hb dX5_gateRow_51 rfl (lv_at hl 4 rfl) ?_
    refine lv_iconst (v := 2) hx hb dX5_gateRow_52 (by decide) ?_
    have hPc := hP.sub (ws' := [(h1, .inr (0, [.int h1_0, .int h1_1, .ref h1_2, .ref h1_3, .ref h1_4, .ref h1_5, .ref h1_6, .ref h1_7, .ref h1_8, .ref h1_9, .ref h1_10, .ref h1_11, .ref h1_12])), (h1_7, .inl (yh1_7, 720, .inl fh1_7))]) [2, 5] rfl
    have hDc := hD.sub (ws' := [(h1, .inr (0, [.int h1_0, .int h1_1, .ref h1_2, .ref h1_3, .ref h1_4, .ref h1_5, .ref h1_6, .ref h1_7, .ref h1_8, .ref h1_9, .ref h1_10, .ref h1_11, .ref h1_12])), (h1_7, .inl (yh1_7, 720, .inl fh1_7))]) [2, 5] (by decide) rfl
    have hKc := hK.sub (tys' := [(yh1_7, .int)]) [3] rfl
    have hFc := va_free (wc := [(h1, .inr (0, [.int h1_0, .int h1_1, .ref h1_2, .ref h1_3, .ref h1_4, .ref h1_5, .ref h1_6, .ref h1_7, .ref h1_8, .ref h1_9, .ref h1_10, .ref h1_11, .ref h1_12])), (h1_7, .inl (yh1_7, 720, .inl fh1_7))]) hD hS hA [2, 5] rfl
    refine va_calli (va_runV (As := [.int p2, .int 2]) (rest := [.ref h0_3, .long zy5, .long zy44]) ⟨hx, hb, hml, hown, hts⟩ (s_X0_part l dC dI h1 h1_7 h1_0 h1_1 h1_2 h1_3 h1_4 h1_5 h1_6 h1_8 h1_9 h1_10 h1_11 h1_12 yh1_7 fh1_7 p2 2 Hy40.size hy_h1_0 hy_p2 (IV_mk (by decide) (by decide)) hy_fh1_7) (cwV 2 hts gX5_gateRow_X0_part rfl rfl rfl (by decide +kernel) ⟨Nat.le_of_ble_eq_true rfl, Nat.le_of_ble_eq_true rfl⟩) ⟨fun a U g mk q => by obtain ⟨q0, q1, qP, qK, qD⟩ := q; exact ⟨q0, q1, qP, va_K.moved (u := U) (U := U.calling g mk a) (Vm.Alike.refl U.vm) qK, qD⟩, va_recv hKc hPc (ci := 0) (q0 := 0) rfl rfl, fun U hU hW => ⟨rfl, by rw [hU], by rw [hU]; exact hPc, va_K.moved hW.alike hKc, hDc.weaken (fun _ _ _ _ => trivial)⟩⟩ rfl rfl hl.1 rfl (lv_room (Nat.le_of_ble_eq_true rfl)) dX5_gateRow_53 ⟨Nat.le_of_ble_eq_true rfl, Nat.le_of_ble_eq_true rfl⟩) hS (fun q _ h => hFc q h) hFc (fun ry46 u t Hy45 locs ht hvm hw hB hz1 hk1 hS => ?_)
    obtain ⟨hP1, hK1, hD1⟩ := hB
    rw [ht] at hP1
    obtain ⟨hP, hD⟩ := va_join (wr := [(h0, .inr (4, [.int h0_0, .long h0_1, .long h0_2, .ref h0_3, .long h0_4])), (h0_3, .inl (yh0_3, 60, .inr (.inl fh0_3))), (h1_4, .inl (yh1_4, 60, .inl fh1_4)), (h1_5, .inl (yh1_5, 60, .inl fh1_5)), (h1_8, .inl (yh1_8, 60, .inl fh1_8))]) (w1 := [(h1, .inr (0, [.int h1_0, .int h1_1, .ref h1_2, .ref h1_3, .ref h1_4, .ref h1_5, .ref h1_6, .ref h1_7, .ref h1_8, .ref h1_9, .ref h1_10, .ref h1_11, .ref h1_12])), (h1_7, .inl (yh1_7, 720, .inl fh1_7))]) hP hD [2, 5] [0, 1, 3, 4, 6] rfl rfl (by decide) (by decide) hk1 hFc hP1 hD1
    have hP := hP.sub (ws' := [(h0, .inr (4, [.int h0_0, .long h0_1, .long h0_2, .ref h0_3, .long h0_4])), (h0_3, .inl (yh0_3, 60, .inr (.inl fh0_3))), (h1, .inr (0, [.int h1_0, .int h1_1, .ref h1_2, .ref h1_3, .ref h1_4, .ref h1_5, .ref h1_6, .ref h1_7, .ref h1_8, .ref h1_9, .ref h1_10, .ref h1_11, .ref h1_12])), (h1_4, .inl (yh1_4, 60, .inl fh1_4)), (h1_5, .inl (yh1_5, 60, .inl fh1_5)), (h1_7, .inl (yh1_7, 720, .inl fh1_7)), (h1_8, .inl (yh1_8, 60, .inl fh1_8))]) [0, 1, 5, 2, 3, 6, 4] rfl
    have hD := hD.sub (ws' := [(h0, .inr (4, [.int h0_0, .long h0_1, .long h0_2, .ref h0_3, .long h0_4])), (h0_3, .inl (yh0_3, 60, .inr (.inl fh0_3))), (h1, .inr (0, [.int h1_0, .int h1_1, .ref h1_2, .ref h1_3, .ref h1_4, .ref h1_5, .ref h1_6, .ref h1_7, .ref h1_8, .ref h1_9, .ref h1_10, .ref h1_11, .ref h1_12])), (h1_4, .inl (yh1_4, 60, .inl fh1_4)), (h1_5, .inl (yh1_5, 60, .inl fh1_5)), (h1_7, .inl (yh1_7, 720, .inl fh1_7)), (h1_8, .inl (yh1_8, 60, .inl fh1_8))]) [0, 1, 5, 2, 3, 6, 4] (by decide) rfl
    have hP : va_P (dC, dI) vwCl [(h0, .inr (4, [.int h0_0, .long h0_1, .long h0_2, .ref h0_3, .long h0_4])), (h0_3, .inl (yh0_3, 60, .inr (.inl fh0_3))), (h1, .inr (0, [.int h1_0, .int h1_1, .ref h1_2, .ref h1_3, .ref h1_4, .ref h1_5, .ref h1_6, .ref h1_7, .ref h1_8, .ref h1_9, .ref h1_10, .ref h1_11, .ref h1_12])), (h1_4, .inl (yh1_4, 60, .inl fh1_4)), (h1_5, .inl (yh1_5, 60, .inl fh1_5)), (h1_7, .inl (yh1_7, 720, .inl fh1_7)), (h1_8, .inl (yh1_8, 60, .inl fh1_8))] Hy45 := hP
    have hD : va_D A [(h0, .inr (4, [.int h0_0, .long h0_1, .long h0_2, .ref h0_3, .long h0_4])), (h0_3, .inl (yh0_3, 60, .inr (.inl fh0_3))), (h1, .inr (0, [.int h1_0, .int h1_1, .ref h1_2, .ref h1_3, .ref h1_4, .ref h1_5, .ref h1_6, .ref h1_7, .ref h1_8, .ref h1_9, .ref h1_10, .ref h1_11, .ref h1_12])), (h1_4, .inl (yh1_4, 60, .inl fh1_4)), (h1_5, .inl (yh1_5, 60, .inl fh1_5)), (h1_7, .inl (yh1_7, 720, .inl fh1_7)), (h1_8, .inl (yh1_8, 60, .inl fh1_8))] := hD
    have by47 : IV 0 59 ry46 := hw
    refine va_lald hx hb hK hP 1 0 rfl rfl (IV_in by47 (by decide) (by decide)) dX5_gateRow_56 ?_
    refine lv_topl (fun zy48 ezy48 => ?_)
    refine lv_land hx hb dX5_gateRow_57 ?_
    refine lv_topl (fun zy49 ezy49 => ?_)
    refine lv_lor hx hb dX5_gateRow_58 ?_
    refine lv_topl (fun zy50 ezy50 => ?_)
    exact W.lret (v := zy50) hx hb hr (fun t ht hW => ⟨⟨zy50, (), rfl, trivial, by rw [ht]; exact hP, va_K.moved hW.alike hK, hD⟩, hS.F ht⟩) hS.2.2 dX5_gateRow_59

set_option maxHeartbeats 4000000 in
set_option maxRecDepth 100000 in
theorem s_X5_busRow (l : Launch) (dC : Nat → ClassId) (dI : Nat → Nat → Nat) (h0 : Nat) (h0_3 : Nat) (h1 : Nat) (h1_4 : Nat) (h1_7 : Nat) (h1_8 : Nat) (h1_9 : Nat) (h0_0 : Int32) (h0_1 : Int64) (h0_2 : Int64) (h0_4 : Int64) (yh0_3 : ClassId) (fh0_3 : Nat → Int64) (h1_0 : Int32) (h1_1 : Int32) (h1_2 : Nat) (h1_3 : Nat) (h1_5 : Nat) (h1_6 : Nat) (h1_10 : Nat) (h1_11 : Nat) (h1_12 : Nat) (yh1_4 : ClassId) (fh1_4 : Nat → Int32) (yh1_7 : ClassId) (fh1_7 : Nat → Int32) (yh1_8 : ClassId) (fh1_8 : Nat → Int32) (yh1_9 : ClassId) (fh1_9 : Nat → Int32) (p2 : Int32) (kz : Int32) (sz : Nat) (ekz : kz = fh1_4 p2.toNatClampNeg) (hy_kz : IV 1 1 kz) (hy_h1_0 : IV 0 60 h1_0) (hy_p2 : IV 0 59 p2) (hy_fh1_7 : AR 0 59 fh1_7) (hy_fh1_8 : AR 0 12 fh1_8) : Met l yX5_busRow wsX5_busRow ({ frames := 1, cells := 0, slots := 0, locals := 22 }) (va_Pc [.ref h0, .ref h1, .int p2] (fun U => U.heap.size = sz ∧ va_P (dC, dI) vwCl [(h0, .inr (4, [.int h0_0, .long h0_1, .long h0_2, .ref h0_3, .long h0_4])), (h0_3, .inl (yh0_3, 60, .inr (.inl fh0_3))), (h1, .inr (0, [.int h1_0, .int h1_1, .ref h1_2, .ref h1_3, .ref h1_4, .ref h1_5, .ref h1_6, .ref h1_7, .ref h1_8, .ref h1_9, .ref h1_10, .ref h1_11, .ref h1_12])), (h1_4, .inl (yh1_4, 60, .inl fh1_4)), (h1_7, .inl (yh1_7, 720, .inl fh1_7)), (h1_8, .inl (yh1_8, 60, .inl fh1_8)), (h1_9, .inl (yh1_9, 60, .inl fh1_9))] U.heap ∧ va_K (dC, dI) vwCl [(yh0_3, .long), (yh1_4, .int), (yh1_7, .int), (yh1_8, .int), (yh1_9, .int)] U ∧ va_D (fun _ => True) [(h0, .inr (4, [.int h0_0, .long h0_1, .long h0_2, .ref h0_3, .long h0_4])), (h0_3, .inl (yh0_3, 60, .inr (.inl fh0_3))), (h1, .inr (0, [.int h1_0, .int h1_1, .ref h1_2, .ref h1_3, .ref h1_4, .ref h1_5, .ref h1_6, .ref h1_7, .ref h1_8, .ref h1_9, .ref h1_10, .ref h1_11, .ref h1_12])), (h1_4, .inl (yh1_4, 60, .inl fh1_4)), (h1_7, .inl (yh1_7, 720, .inl fh1_7)), (h1_8, .inl (yh1_8, 60, .inl fh1_8)), (h1_9, .inl (yh1_9, 60, .inl fh1_9))])) (va_Ql (fun (r : Int64) (_ : Unit) => True) (fun (_ : Unit) (t : State) => ∃ (my59 : Int64), va_P (dC, dI) vwCl [(h0, .inr (4, [.int h0_0, .long h0_1, .long h0_2, .ref h0_3, .long my59])), (h0_3, .inl (yh0_3, 60, .inr (.inl fh0_3))), (h1, .inr (0, [.int h1_0, .int h1_1, .ref h1_2, .ref h1_3, .ref h1_4, .ref h1_5, .ref h1_6, .ref h1_7, .ref h1_8, .ref h1_9, .ref h1_10, .ref h1_11, .ref h1_12])), (h1_4, .inl (yh1_4, 60, .inl fh1_4)), (h1_7, .inl (yh1_7, 720, .inl fh1_7)), (h1_8, .inl (yh1_8, 60, .inl fh1_8)), (h1_9, .inl (yh1_9, 60, .inl fh1_9))] t.heap ∧ va_K (dC, dI) vwCl [(yh0_3, .long), (yh1_4, .int), (yh1_7, .int), (yh1_8, .int), (yh1_9, .int)] t ∧ va_D (va_A [(h0, .inr (4, [.int h0_0, .long h0_1, .long h0_2, .ref h0_3, .long h0_4])), (h0_3, .inl (yh0_3, 60, .inr (.inl fh0_3))), (h1, .inr (0, [.int h1_0, .int h1_1, .ref h1_2, .ref h1_3, .ref h1_4, .ref h1_5, .ref h1_6, .ref h1_7, .ref h1_8, .ref h1_9, .ref h1_10, .ref h1_11, .ref h1_12])), (h1_4, .inl (yh1_4, 60, .inl fh1_4)), (h1_7, .inl (yh1_7, 720, .inl fh1_7)), (h1_8, .inl (yh1_8, 60, .inl fh1_8)), (h1_9, .inl (yh1_9, 60, .inl fh1_9))] sz) [(h0, .inr (4, [.int h0_0, .long h0_1, .long h0_2, .ref h0_3, .long my59])), (h0_3, .inl (yh0_3, 60, .inr (.inl fh0_3))), (h1, .inr (0, [.int h1_0, .int h1_1, .ref h1_2, .ref h1_3, .ref h1_4, .ref h1_5, .ref h1_6, .ref h1_7, .ref h1_8, .ref h1_9, .ref h1_10, .ref h1_11, .ref h1_12])), (h1_4, .inl (yh1_4, 60, .inl fh1_4)), (h1_7, .inl (yh1_7, 720, .inl fh1_7)), (h1_8, .inl (yh1_8, 60, .inl fh1_8)), (h1_9, .inl (yh1_9, 60, .inl fh1_9))]) (va_A [(h0, .inr (4, [.int h0_0, .long h0_1, .long h0_2, .ref h0_3, .long h0_4])), (h0_3, .inl (yh0_3, 60, .inr (.inl fh0_3))), (h1, .inr (0, [.int h1_0, .int h1_1, .ref h1_2, .ref h1_3, .ref h1_4, .ref h1_5, .ref h1_6, .ref h1_7, .ref h1_8, .ref h1_9, .ref h1_10, .ref h1_11, .ref h1_12])), (h1_4, .inl (yh1_4, 60, .inl fh1_4)), (h1_7, .inl (yh1_7, 720, .inl fh1_7)), (h1_8, .inl (yh1_8, 60, .inl fh1_8)), (h1_9, .inl (yh1_9, 60, .inl fh1_9))] sz)) 0 0 (va_A [(h0, .inr (4, [.int h0_0, .long h0_1, .long h0_2, .ref h0_3, .long h0_4])), (h0_3, .inl (yh0_3, 60, .inr (.inl fh0_3))), (h1, .inr (0, [.int h1_0, .int h1_1, .ref h1_2, .ref h1_3, .ref h1_4, .ref h1_5, .ref h1_6, .ref h1_7, .ref h1_8, .ref h1_9, .ref h1_10, .ref h1_11, .ref h1_12])), (h1_4, .inl (yh1_4, 60, .inl fh1_4)), (h1_7, .inl (yh1_7, 720, .inl fh1_7)), (h1_8, .inl (yh1_8, 60, .inl fh1_8)), (h1_9, .inl (yh1_9, 60, .inl fh1_9))] sz) := by
  refine Met.ofW (cc := cX5_busRow) (maxL := 15) (ret := (some .long)) (by decide +kernel) rfl ?_
  intro p e s m args below meth c s₁ B hml hv
  obtain ⟨rfl, hsz, hP, hK, hD0⟩ := hv
  have hx := B.exec
  have hb := B.bytes
  have hr := B.returns
  have hts := atoms_spec (ws := wsX5_busRow) B.pre
  have hown : s.vm.findClass RX5 = some m.cls := findClass_of_methodNamed B.named
  have hlocks := B.notSynchronized
  have inX5_ : ∀ w ∈ wsX50, w ∈ wsX5_busRow := fun _ h => List.mem_cons_of_mem _ (List.mem_append_left _ (List.mem_append_right _ h))
  subst hsz
  have hD := hD0.self (sz := s.heap.size)
  generalize hAe : va_A [(h0, .inr (4, [.int h0_0, .long h0_1, .long h0_2, .ref h0_3, .long h0_4])), (h0_3, .inl (yh0_3, 60, .inr (.inl fh0_3))), (h1, .inr (0, [.int h1_0, .int h1_1, .ref h1_2, .ref h1_3, .ref h1_4, .ref h1_5, .ref h1_6, .ref h1_7, .ref h1_8, .ref h1_9, .ref h1_10, .ref h1_11, .ref h1_12])), (h1_4, .inl (yh1_4, 60, .inl fh1_4)), (h1_7, .inl (yh1_7, 720, .inl fh1_7)), (h1_8, .inl (yh1_8, 60, .inl fh1_8)), (h1_9, .inl (yh1_9, 60, .inl fh1_9))] s.heap.size = A at hD ⊢
  have hA : ∀ q : Nat, s.heap.size ≤ q → A q := fun q h => by rw [← hAe]; exact Or.inr h
  have hS : va_S A s.heap s.heap [] := va_S.rf
  have hP : va_P (dC, dI) vwCl [(h0, .inr (4, [.int h0_0, .long h0_1, .long h0_2, .ref h0_3, .long h0_4])), (h0_3, .inl (yh0_3, 60, .inr (.inl fh0_3))), (h1, .inr (0, [.int h1_0, .int h1_1, .ref h1_2, .ref h1_3, .ref h1_4, .ref h1_5, .ref h1_6, .ref h1_7, .ref h1_8, .ref h1_9, .ref h1_10, .ref h1_11, .ref h1_12])), (h1_4, .inl (yh1_4, 60, .inl fh1_4)), (h1_7, .inl (yh1_7, 720, .inl fh1_7)), (h1_8, .inl (yh1_8, 60, .inl fh1_8)), (h1_9, .inl (yh1_9, 60, .inl fh1_9))] s.heap := hP
  have hl := lv_entry ([.ref h0, .ref h1, .int p2]) (n := 15) (Nat.le_of_ble_eq_true rfl)
  rw [lg_entry_eq]
  generalize (lg_sl ([.ref h0, .ref h1, .int p2]) ++ List.replicate (15 - (lg_sl ([.ref h0, .ref h1, .int p2])).length) Slot.unset).toArray = ls at hl ⊢
  have hl : lv_has ls 15 [(0, .ref h0), (1, .ref h1), (2, .int p2)] := hl
  refine lv_lconst (v := 0) hx hb dX5_busRow_0 (by decide) ?_
  refine lv_lstore_n (lv' := [(3, .long 0), (0, .ref h0), (1, .ref h1), (2, .int p2)]) hx hb dX5_busRow_1 rfl hl (by decide) rfl (fun ls hl => ?_)
  refine lv_lconst (v := 0) hx hb dX5_busRow_2 (by decide) ?_
  refine lv_lstore (lv' := [(5, .long 0), (3, .long 0), (0, .ref h0), (1, .ref h1), (2, .int p2)]) hx hb dX5_busRow_3 hl (by decide) rfl (fun ls hl => ?_)
  refine lv_lconst (v := 0) hx hb dX5_busRow_5 (by decide) ?_
  refine lv_lstore (lv' := [(7, .long 0), (5, .long 0), (3, .long 0), (0, .ref h0), (1, .ref h1), (2, .int p2)]) hx hb dX5_busRow_6 hl (by decide) rfl (fun ls hl => ?_)
  refine lv_aload_n hx hb dX5_busRow_8 rfl (lv_at hl 4 rfl) ?_
  refine lv_iload_n hx hb dX5_busRow_9 rfl (lv_at hl 5 rfl) ?_
  have hPc := hP.sub (ws' := [(h1, .inr (0, [.int h1_0, .int h1_1, .ref h1_2, .ref h1_3, .ref h1_4, .ref h1_5, .ref h1_6, .ref h1_7, .ref h1_8, .ref h1_9, .ref h1_10, .ref h1_11, .ref h1_12])), (h1_4, .inl (yh1_4, 60, .inl fh1_4)), (h1_8, .inl (yh1_8, 60, .inl fh1_8))]) [2, 3, 5] rfl
  have hDc := hD.sub (ws' := [(h1, .inr (0, [.int h1_0, .int h1_1, .ref h1_2, .ref h1_3, .ref h1_4, .ref h1_5, .ref h1_6, .ref h1_7, .ref h1_8, .ref h1_9, .ref h1_10, .ref h1_11, .ref h1_12])), (h1_4, .inl (yh1_4, 60, .inl fh1_4)), (h1_8, .inl (yh1_8, 60, .inl fh1_8))]) [2, 3, 5] (by decide) rfl
  have hKc := hK.sub (tys' := [(yh1_4, .int), (yh1_8, .int)]) [1, 3] rfl
  have hFc := va_free (wc := [(h1, .inr (0, [.int h1_0, .int h1_1, .ref h1_2, .ref h1_3, .ref h1_4, .ref h1_5, .ref h1_6, .ref h1_7, .ref h1_8, .ref h1_9, .ref h1_10, .ref h1_11, .ref h1_12])), (h1_4, .inl (yh1_4, 60, .inl fh1_4)), (h1_8, .inl (yh1_8, 60, .inl fh1_8))]) hD hS hA [2, 3, 5] rfl
  refine va_calli (va_runV (As := [.int p2]) (rest := []) ⟨hx, hb, hml, hown, hts⟩ (s_X0_size_bus l dC dI h1 h1_4 h1_8 h1_0 h1_1 h1_2 h1_3 h1_5 h1_6 h1_7 h1_9 h1_10 h1_11 h1_12 yh1_4 fh1_4 yh1_8 fh1_8 p2 kz s.heap.size ekz hy_kz hy_h1_0 hy_p2 hy_fh1_8) (cwV 1 hts gX5_busRow_X0_size rfl rfl rfl (by decide +kernel) ⟨Nat.le_of_ble_eq_true rfl, Nat.le_of_ble_eq_true rfl⟩) ⟨fun a U g mk q => by obtain ⟨q0, q1, qP, qK, qD⟩ := q; exact ⟨q0, q1, qP, va_K.moved (u := U) (U := U.calling g mk a) (Vm.Alike.refl U.vm) qK, qD⟩, va_recv hKc hPc (ci := 0) (q0 := 0) rfl rfl, fun U hU hW => ⟨rfl, by rw [hU], by rw [hU]; exact hPc, va_K.moved hW.alike hKc, hDc.weaken (fun _ _ _ _ => trivial)⟩⟩ rfl rfl hl.1 rfl (lv_room (Nat.le_of_ble_eq_true rfl)) dX5_busRow_10 ⟨Nat.le_of_ble_eq_true rfl, Nat.le_of_ble_eq_true rfl⟩) hS (fun q _ h => hFc q h) hFc (fun ry2 u t Hy1 locs ht hvm hw hB hz1 hk1 hS => ?_)
  obtain ⟨hP1, hK1, hD1⟩ := hB
  rw [ht] at hP1
  obtain ⟨hP, hD⟩ := va_join (wr := [(h0, .inr (4, [.int h0_0, .long h0_1, .long h0_2, .ref h0_3, .long h0_4])), (h0_3, .inl (yh0_3, 60, .inr (.inl fh0_3))), (h1_7, .inl (yh1_7, 720, .inl fh1_7)), (h1_9, .inl (yh1_9, 60, .inl fh1_9))]) (w1 := [(h1, .inr (0, [.int h1_0, .int h1_1, .ref h1_2, .ref h1_3, .ref h1_4, .ref h1_5, .ref h1_6, .ref h1_7, .ref h1_8, .ref h1_9, .ref h1_10, .ref h1_11, .ref h1_12])), (h1_4, .inl (yh1_4, 60, .inl fh1_4)), (h1_8, .inl (yh1_8, 60, .inl fh1_8))]) hP hD [2, 3, 5] [0, 1, 4, 6] rfl rfl (by decide) (by decide) hk1 hFc hP1 hD1
  have hP := hP.sub (ws' := [(h0, .inr (4, [.int h0_0, .long h0_1, .long h0_2, .ref h0_3, .long h0_4])), (h0_3, .inl (yh0_3, 60, .inr (.inl fh0_3))), (h1, .inr (0, [.int h1_0, .int h1_1, .ref h1_2, .ref h1_3, .ref h1_4, .ref h1_5, .ref h1_6, .ref h1_7, .ref h1_8, .ref h1_9, .ref h1_10, .ref h1_11, .ref h1_12])), (h1_4, .inl (yh1_4, 60, .inl fh1_4)), (h1_7, .inl (yh1_7, 720, .inl fh1_7)), (h1_8, .inl (yh1_8, 60, .inl fh1_8)), (h1_9, .inl (yh1_9, 60, .inl fh1_9))]) [0, 1, 4, 5, 2, 6, 3] rfl
  have hD := hD.sub (ws' := [(h0, .inr (4, [.int h0_0, .long h0_1, .long h0_2, .ref h0_3, .long h0_4])), (h0_3, .inl (yh0_3, 60, .inr (.inl fh0_3))), (h1, .inr (0, [.int h1_0, .int h1_1, .ref h1_2, .ref h1_3, .ref h1_4, .ref h1_5, .ref h1_6, .ref h1_7, .ref h1_8, .ref h1_9, .ref h1_10, .ref h1_11, .ref h1_12])), (h1_4, .inl (yh1_4, 60, .inl fh1_4)), (h1_7, .inl (yh1_7, 720, .inl fh1_7)), (h1_8, .inl (yh1_8, 60, .inl fh1_8)), (h1_9, .inl (yh1_9, 60, .inl fh1_9))]) [0, 1, 4, 5, 2, 6, 3] (by decide) rfl
  have hP : va_P (dC, dI) vwCl [(h0, .inr (4, [.int h0_0, .long h0_1, .long h0_2, .ref h0_3, .long h0_4])), (h0_3, .inl (yh0_3, 60, .inr (.inl fh0_3))), (h1, .inr (0, [.int h1_0, .int h1_1, .ref h1_2, .ref h1_3, .ref h1_4, .ref h1_5, .ref h1_6, .ref h1_7, .ref h1_8, .ref h1_9, .ref h1_10, .ref h1_11, .ref h1_12])), (h1_4, .inl (yh1_4, 60, .inl fh1_4)), (h1_7, .inl (yh1_7, 720, .inl fh1_7)), (h1_8, .inl (yh1_8, 60, .inl fh1_8)), (h1_9, .inl (yh1_9, 60, .inl fh1_9))] Hy1 := hP
  have hD : va_D A [(h0, .inr (4, [.int h0_0, .long h0_1, .long h0_2, .ref h0_3, .long h0_4])), (h0_3, .inl (yh0_3, 60, .inr (.inl fh0_3))), (h1, .inr (0, [.int h1_0, .int h1_1, .ref h1_2, .ref h1_3, .ref h1_4, .ref h1_5, .ref h1_6, .ref h1_7, .ref h1_8, .ref h1_9, .ref h1_10, .ref h1_11, .ref h1_12])), (h1_4, .inl (yh1_4, 60, .inl fh1_4)), (h1_7, .inl (yh1_7, 720, .inl fh1_7)), (h1_8, .inl (yh1_8, 60, .inl fh1_8)), (h1_9, .inl (yh1_9, 60, .inl fh1_9))] := hD
  have by3 : IV 0 6 ry2 := hw
  refine lv_istore (lv' := [(9, .int ry2), (7, .long 0), (5, .long 0), (3, .long 0), (0, .ref h0), (1, .ref h1), (2, .int p2)]) hx hb dX5_busRow_13 hl (by decide) rfl (fun ls hl => ?_)
  refine lv_iconst (v := 0) hx hb dX5_busRow_15 (by decide) ?_
  refine lv_istore (lv' := [(10, .int 0), (9, .int ry2), (7, .long 0), (5, .long 0), (3, .long 0), (0, .ref h0), (1, .ref h1), (2, .int p2)]) hx hb dX5_busRow_16 hl (by decide) rfl (fun ls hl => ?_)
  refine W_abs (fun GWy16 eGy17 => ?_)
  have lpy18 : ∀ (n : Nat) (my12 : Int32) (my13 : Int64) (my14 : Int64) (my15 : Int64) (HGWy16 : Heap) (locs : List Loc) (ls : Array Slot), 7 - my12.toInt ≤ (n : Int) → IV 0 6 my12 → va_P (dC, dI) vwCl [(h0, .inr (4, [.int h0_0, .long h0_1, .long h0_2, .ref h0_3, .long h0_4])), (h0_3, .inl (yh0_3, 60, .inr (.inl fh0_3))), (h1, .inr (0, [.int h1_0, .int h1_1, .ref h1_2, .ref h1_3, .ref h1_4, .ref h1_5, .ref h1_6, .ref h1_7, .ref h1_8, .ref h1_9, .ref h1_10, .ref h1_11, .ref h1_12])), (h1_4, .inl (yh1_4, 60, .inl fh1_4)), (h1_7, .inl (yh1_7, 720, .inl fh1_7)), (h1_8, .inl (yh1_8, 60, .inl fh1_8)), (h1_9, .inl (yh1_9, 60, .inl fh1_9))] HGWy16 → va_D A [(h0, .inr (4, [.int h0_0, .long h0_1, .long h0_2, .ref h0_3, .long h0_4])), (h0_3, .inl (yh0_3, 60, .inr (.inl fh0_3))), (h1, .inr (0, [.int h1_0, .int h1_1, .ref h1_2, .ref h1_3, .ref h1_4, .ref h1_5, .ref h1_6, .ref h1_7, .ref h1_8, .ref h1_9, .ref h1_10, .ref h1_11, .ref h1_12])), (h1_4, .inl (yh1_4, 60, .inl fh1_4)), (h1_7, .inl (yh1_7, 720, .inl fh1_7)), (h1_8, .inl (yh1_8, 60, .inl fh1_8)), (h1_9, .inl (yh1_9, 60, .inl fh1_9))] → va_S A s.heap HGWy16 locs → lv_has ls 15 [(10, .int my12), (9, .int ry2), (7, .long my13), (5, .long my14), (3, .long my15), (0, .ref h0), (1, .ref h1), (2, .int p2)] → GWy16 HGWy16 locs 0 0 (F0 m 18 ls []) := by
    intro n
    induction n with
    | zero =>
      intro my12 my13 my14 my15 HGWy16 locs ls hmGWy16 hmy12 hP hD hS hl
      exact (IV_u0 hmy12 hmGWy16 (by decide)).elim
    | succ n ihGWy16 =>
      intro my12 my13 my14 my15 HGWy16 locs ls hmGWy16 hmy12 hP hD hS hl
      refine (eGy17 _ _ _ _ _).mpr ?_
      refine lv_iload hx hb dX5_busRow_18 (lv_at hl 0 rfl) ?_
      refine lv_iload hx hb dX5_busRow_20 (lv_at hl 1 rfl) ?_
      refine lv_icmp_ge (tgt := 109) hx hb dX5_busRow_22 (by decide) (fun cy19 => ?_) (fun cy19 => ?_)
      · have h_cy19 := cy19
        refine lv_aload_n hx hb dX5_busRow_109 rfl (lv_at hl 5 rfl) ?_
        refine lv_dup hx hb dX5_busRow_110 rfl ?_
        refine va_get (D := (dC, dI)) (ci := 4) (v := .long h0_4) (C := RX5) (T := TX5) (N := 5) hx hb hts inX5_ hown hK hP 0 rfl rfl 4 (by decide) (hts (.fieldLink RX5 28 "GateWheel$Worlds" "legalHere" "J") (List.mem_of_getElem? (i := 3) rfl)) (fun _ h9 => h9) rfl dX5_busRow_111 ?_
        refine lv_lload hx hb dX5_busRow_114 (lv_at hl 3 rfl) ?_
        refine lv_lload hx hb dX5_busRow_116 (lv_at hl 2 rfl) ?_
        refine lv_ldc2 hx hb hown (hts (.constantLong RX5 26 (-1)) (List.mem_of_getElem? (i := 2) rfl)) dX5_busRow_118 ?_
        refine lv_lxor hx hb dX5_busRow_121 ?_
        refine lv_topl (fun zy20 ezy20 => ?_)
        refine lv_land hx hb dX5_busRow_122 ?_
        refine lv_topl (fun zy21 ezy21 => ?_)
        refine lv_land hx hb dX5_busRow_123 ?_
        refine lv_topl (fun zy22 ezy22 => ?_)
        refine va_put (D := (dC, dI)) (ci := 4) (v := .long zy22) (ty := .long) (C := RX5) (T := TX5) (N := 5) hx hb hts inX5_ tyX5 tyX5_ok nmX5 hown hK hP hD hS 0 rfl rfl 4 (by decide) (hts (.fieldLink RX5 28 "GateWheel$Worlds" "legalHere" "J") (List.mem_of_getElem? (i := 3) rfl)) (fun _ h9 => h9) rfl (by decide +kernel) rfl rfl (Nat.le_of_ble_eq_true rfl) dX5_busRow_124 (fun Hy23 locs hP hD hS => ?_)
        have hP : va_P (dC, dI) vwCl [(h0, .inr (4, [.int h0_0, .long h0_1, .long h0_2, .ref h0_3, .long zy22])), (h0_3, .inl (yh0_3, 60, .inr (.inl fh0_3))), (h1, .inr (0, [.int h1_0, .int h1_1, .ref h1_2, .ref h1_3, .ref h1_4, .ref h1_5, .ref h1_6, .ref h1_7, .ref h1_8, .ref h1_9, .ref h1_10, .ref h1_11, .ref h1_12])), (h1_4, .inl (yh1_4, 60, .inl fh1_4)), (h1_7, .inl (yh1_7, 720, .inl fh1_7)), (h1_8, .inl (yh1_8, 60, .inl fh1_8)), (h1_9, .inl (yh1_9, 60, .inl fh1_9))] Hy23 := hP
        have hD : va_D A [(h0, .inr (4, [.int h0_0, .long h0_1, .long h0_2, .ref h0_3, .long zy22])), (h0_3, .inl (yh0_3, 60, .inr (.inl fh0_3))), (h1, .inr (0, [.int h1_0, .int h1_1, .ref h1_2, .ref h1_3, .ref h1_4, .ref h1_5, .ref h1_6, .ref h1_7, .ref h1_8, .ref h1_9, .ref h1_10, .ref h1_11, .ref h1_12])), (h1_4, .inl (yh1_4, 60, .inl fh1_4)), (h1_7, .inl (yh1_7, 720, .inl fh1_7)), (h1_8, .inl (yh1_8, 60, .inl fh1_8)), (h1_9, .inl (yh1_9, 60, .inl fh1_9))] := hD
        refine lv_lload_n hx hb dX5_busRow_127 rfl (lv_at hl 4 rfl) ?_
        exact W.lret (v := my15) hx hb hr (fun t ht hW => ⟨⟨my15, (), rfl, trivial, zy22, by rw [ht]; exact hP, va_K.moved hW.alike hK, hD⟩, hS.F ht⟩) hS.2.2 dX5_busRow_128
      · have h_cy19 := cy19
        have by24 : IV 1 6 ry2 := IV_nle_l cy19 by3 hmy12 (by decide) (by decide)
        have by25 : IV 0 5 my12 := IV_nle_r cy19 by3 hmy12 (by decide) (by decide)
        refine lv_aload_n hx hb dX5_busRow_25 rfl (lv_at hl 5 rfl) ?_
        refine va_get (D := (dC, dI)) (ci := 4) (v := .ref h0_3) (C := RX5) (T := TX5) (N := 5) hx hb hts inX5_ hown hK hP 0 rfl rfl 3 (by decide) (hts (.fieldLink RX5 9 "GateWheel$Worlds" "rows" "[J") (List.mem_of_getElem? (i := 1) rfl)) (fun _ h9 => h9) rfl dX5_busRow_26 ?_
        refine lv_aload_n hx hb dX5_busRow_29 rfl (lv_at hl 6 rfl) ?_
        refine lv_iload_n hx hb dX5_busRow_30 rfl (lv_at hl 7 rfl) ?_
        refine lv_iconst (v := 2) hx hb dX5_busRow_31 (by decide) ?_
        refine lv_iload hx hb dX5_busRow_32 (lv_at hl 0 rfl) ?_
        refine lv_imul hx hb dX5_busRow_34 ?_
        refine lv_topi (fun zy26 ezy26 => ?_)
        have by27 : IV 0 10 zy26 := IV_mul ezy26 (IV_mk (a := 2) (b := 2) (by decide) (by decide)) by25 (by decide) (by decide) (by decide) (by decide) (by decide)
        refine lv_iconst (v := 1) hx hb dX5_busRow_35 (by decide) ?_
        refine lv_iadd hx hb dX5_busRow_36 ?_
        refine lv_topi (fun zy28 ezy28 => ?_)
        have by29 : IV 1 11 zy28 := IV_add ezy28 by27 (IV_mk (a := 1) (b := 1) (by decide) (by decide)) (by decide) (by decide) (by decide) (by decide)
        have hPc := hP.sub (ws' := [(h1, .inr (0, [.int h1_0, .int h1_1, .ref h1_2, .ref h1_3, .ref h1_4, .ref h1_5, .ref h1_6, .ref h1_7, .ref h1_8, .ref h1_9, .ref h1_10, .ref h1_11, .ref h1_12])), (h1_7, .inl (yh1_7, 720, .inl fh1_7))]) [2, 4] rfl
        have hDc := hD.sub (ws' := [(h1, .inr (0, [.int h1_0, .int h1_1, .ref h1_2, .ref h1_3, .ref h1_4, .ref h1_5, .ref h1_6, .ref h1_7, .ref h1_8, .ref h1_9, .ref h1_10, .ref h1_11, .ref h1_12])), (h1_7, .inl (yh1_7, 720, .inl fh1_7))]) [2, 4] (by decide) rfl
        have hKc := hK.sub (tys' := [(yh1_7, .int)]) [2] rfl
        have hFc := va_free (wc := [(h1, .inr (0, [.int h1_0, .int h1_1, .ref h1_2, .ref h1_3, .ref h1_4, .ref h1_5, .ref h1_6, .ref h1_7, .ref h1_8, .ref h1_9, .ref h1_10, .ref h1_11, .ref h1_12])), (h1_7, .inl (yh1_7, 720, .inl fh1_7))]) hD hS hA [2, 4] rfl
        refine va_calli (va_runV (As := [.int p2, .int zy28]) (rest := [.ref h0_3]) ⟨hx, hb, hml, hown, hts⟩ (s_X0_part l dC dI h1 h1_7 h1_0 h1_1 h1_2 h1_3 h1_4 h1_5 h1_6 h1_8 h1_9 h1_10 h1_11 h1_12 yh1_7 fh1_7 p2 zy28 HGWy16.size hy_h1_0 hy_p2 (IV_wk by29 (by decide) (by decide)) hy_fh1_7) (cwV 2 hts gX5_busRow_X0_part rfl rfl rfl (by decide +kernel) ⟨Nat.le_of_ble_eq_true rfl, Nat.le_of_ble_eq_true rfl⟩) ⟨fun a U g mk q => by obtain ⟨q0, q1, qP, qK, qD⟩ := q; exact ⟨q0, q1, qP, va_K.moved (u := U) (U := U.calling g mk a) (Vm.Alike.refl U.vm) qK, qD⟩, va_recv hKc hPc (ci := 0) (q0 := 0) rfl rfl, fun U hU hW => ⟨rfl, by rw [hU], by rw [hU]; exact hPc, va_K.moved hW.alike hKc, hDc.weaken (fun _ _ _ _ => trivial)⟩⟩ rfl rfl hl.1 rfl (lv_room (Nat.le_of_ble_eq_true rfl)) dX5_busRow_37 ⟨Nat.le_of_ble_eq_true rfl, Nat.le_of_ble_eq_true rfl⟩) hS (fun q _ h => hFc q h) hFc (fun ry31 u t Hy30 locs ht hvm hw hB hz1 hk1 hS => ?_)
        obtain ⟨hP1, hK1, hD1⟩ := hB
        rw [ht] at hP1
        obtain ⟨hP, hD⟩ := va_join (wr := [(h0, .inr (4, [.int h0_0, .long h0_1, .long h0_2, .ref h0_3, .long h0_4])), (h0_3, .inl (yh0_3, 60, .inr (.inl fh0_3))), (h1_4, .inl (yh1_4, 60, .inl fh1_4)), (h1_8, .inl (yh1_8, 60, .inl fh1_8)), (h1_9, .inl (yh1_9, 60, .inl fh1_9))]) (w1 := [(h1, .inr (0, [.int h1_0, .int h1_1, .ref h1_2, .ref h1_3, .ref h1_4, .ref h1_5, .ref h1_6, .ref h1_7, .ref h1_8, .ref h1_9, .ref h1_10, .ref h1_11, .ref h1_12])), (h1_7, .inl (yh1_7, 720, .inl fh1_7))]) hP hD [2, 4] [0, 1, 3, 5, 6] rfl rfl (by decide) (by decide) hk1 hFc hP1 hD1
        have hP := hP.sub (ws' := [(h0, .inr (4, [.int h0_0, .long h0_1, .long h0_2, .ref h0_3, .long h0_4])), (h0_3, .inl (yh0_3, 60, .inr (.inl fh0_3))), (h1, .inr (0, [.int h1_0, .int h1_1, .ref h1_2, .ref h1_3, .ref h1_4, .ref h1_5, .ref h1_6, .ref h1_7, .ref h1_8, .ref h1_9, .ref h1_10, .ref h1_11, .ref h1_12])), (h1_4, .inl (yh1_4, 60, .inl fh1_4)), (h1_7, .inl (yh1_7, 720, .inl fh1_7)), (h1_8, .inl (yh1_8, 60, .inl fh1_8)), (h1_9, .inl (yh1_9, 60, .inl fh1_9))]) [0, 1, 5, 2, 6, 3, 4] rfl
        have hD := hD.sub (ws' := [(h0, .inr (4, [.int h0_0, .long h0_1, .long h0_2, .ref h0_3, .long h0_4])), (h0_3, .inl (yh0_3, 60, .inr (.inl fh0_3))), (h1, .inr (0, [.int h1_0, .int h1_1, .ref h1_2, .ref h1_3, .ref h1_4, .ref h1_5, .ref h1_6, .ref h1_7, .ref h1_8, .ref h1_9, .ref h1_10, .ref h1_11, .ref h1_12])), (h1_4, .inl (yh1_4, 60, .inl fh1_4)), (h1_7, .inl (yh1_7, 720, .inl fh1_7)), (h1_8, .inl (yh1_8, 60, .inl fh1_8)), (h1_9, .inl (yh1_9, 60, .inl fh1_9))]) [0, 1, 5, 2, 6, 3, 4] (by decide) rfl
        have hP : va_P (dC, dI) vwCl [(h0, .inr (4, [.int h0_0, .long h0_1, .long h0_2, .ref h0_3, .long h0_4])), (h0_3, .inl (yh0_3, 60, .inr (.inl fh0_3))), (h1, .inr (0, [.int h1_0, .int h1_1, .ref h1_2, .ref h1_3, .ref h1_4, .ref h1_5, .ref h1_6, .ref h1_7, .ref h1_8, .ref h1_9, .ref h1_10, .ref h1_11, .ref h1_12])), (h1_4, .inl (yh1_4, 60, .inl fh1_4)), (h1_7, .inl (yh1_7, 720, .inl fh1_7)), (h1_8, .inl (yh1_8, 60, .inl fh1_8)), (h1_9, .inl (yh1_9, 60, .inl fh1_9))] Hy30 := hP
        have hD : va_D A [(h0, .inr (4, [.int h0_0, .long h0_1, .long h0_2, .ref h0_3, .long h0_4])), (h0_3, .inl (yh0_3, 60, .inr (.inl fh0_3))), (h1, .inr (0, [.int h1_0, .int h1_1, .ref h1_2, .ref h1_3, .ref h1_4, .ref h1_5, .ref h1_6, .ref h1_7, .ref h1_8, .ref h1_9, .ref h1_10, .ref h1_11, .ref h1_12])), (h1_4, .inl (yh1_4, 60, .inl fh1_4)), (h1_7, .inl (yh1_7, 720, .inl fh1_7)), (h1_8, .inl (yh1_8, 60, .inl fh1_8)), (h1_9, .inl (yh1_9, 60, .inl fh1_9))] := hD
        have by32 : IV 0 59 ry31 := hw
        refine va_lald hx hb hK hP 1 0 rfl rfl (IV_in by32 (by decide) (by decide)) dX5_busRow_40 ?_
        refine lv_topl (fun zy33 ezy33 => ?_)
        refine lv_lstore (lv' := [(11, .long zy33), (10, .int my12), (9, .int ry2), (7, .long my13), (5, .long my14), (3, .long my15), (0, .ref h0), (1, .ref h1), (2, .int p2)]) hx hb dX5_busRow_41 hl (by decide) rfl (fun ls hl => ?_)
        refine lv_aload_n hx hb dX5_busRow_43 rfl (lv_at hl 7 rfl) ?_
        refine lv_iload_n hx hb dX5_busRow_44 rfl (lv_at hl 8 rfl) ?_
        refine lv_iload hx hb dX5_busRow_45 (lv_at hl 1 rfl) ?_
        have hPc := hP.sub (ws' := [(h1, .inr (0, [.int h1_0, .int h1_1, .ref h1_2, .ref h1_3, .ref h1_4, .ref h1_5, .ref h1_6, .ref h1_7, .ref h1_8, .ref h1_9, .ref h1_10, .ref h1_11, .ref h1_12])), (h1_9, .inl (yh1_9, 60, .inl fh1_9))]) [2, 6] rfl
        have hDc := hD.sub (ws' := [(h1, .inr (0, [.int h1_0, .int h1_1, .ref h1_2, .ref h1_3, .ref h1_4, .ref h1_5, .ref h1_6, .ref h1_7, .ref h1_8, .ref h1_9, .ref h1_10, .ref h1_11, .ref h1_12])), (h1_9, .inl (yh1_9, 60, .inl fh1_9))]) [2, 6] (by decide) rfl
        have hKc := hK.sub (tys' := [(yh1_9, .int)]) [4] rfl
        have hFc := va_free (wc := [(h1, .inr (0, [.int h1_0, .int h1_1, .ref h1_2, .ref h1_3, .ref h1_4, .ref h1_5, .ref h1_6, .ref h1_7, .ref h1_8, .ref h1_9, .ref h1_10, .ref h1_11, .ref h1_12])), (h1_9, .inl (yh1_9, 60, .inl fh1_9))]) hD hS hA [2, 6] rfl
        refine va_calli (va_runV (As := [.int p2, .int my12]) (rest := []) ⟨hx, hb, hml, hown, hts⟩ (s_X0_isLow l dC dI h1 h1_9 h1_0 h1_1 h1_2 h1_3 h1_4 h1_5 h1_6 h1_7 h1_8 h1_10 h1_11 h1_12 yh1_9 fh1_9 p2 my12 Hy30.size hy_h1_0 hy_p2) (cwV 2 hts gX5_busRow_X0_isLow rfl rfl rfl (by decide +kernel) ⟨Nat.le_of_ble_eq_true rfl, Nat.le_of_ble_eq_true rfl⟩) ⟨fun a U g mk q => by obtain ⟨q0, q1, qP, qK, qD⟩ := q; exact ⟨q0, q1, qP, va_K.moved (u := U) (U := U.calling g mk a) (Vm.Alike.refl U.vm) qK, qD⟩, va_recv hKc hPc (ci := 0) (q0 := 0) rfl rfl, fun U hU hW => ⟨rfl, by rw [hU], by rw [hU]; exact hPc, va_K.moved hW.alike hKc, hDc.weaken (fun _ _ _ _ => trivial)⟩⟩ rfl rfl hl.1 rfl (lv_room (Nat.le_of_ble_eq_true rfl)) dX5_busRow_47 ⟨Nat.le_of_ble_eq_true rfl, Nat.le_of_ble_eq_true rfl⟩) hS (fun q _ h => hFc q h) hFc (fun ry35 u t Hy34 locs ht hvm hw hB hz1 hk1 hS => ?_)
        obtain ⟨hP1, hK1, hD1⟩ := hB
        rw [ht] at hP1
        obtain ⟨hP, hD⟩ := va_join (wr := [(h0, .inr (4, [.int h0_0, .long h0_1, .long h0_2, .ref h0_3, .long h0_4])), (h0_3, .inl (yh0_3, 60, .inr (.inl fh0_3))), (h1_4, .inl (yh1_4, 60, .inl fh1_4)), (h1_7, .inl (yh1_7, 720, .inl fh1_7)), (h1_8, .inl (yh1_8, 60, .inl fh1_8))]) (w1 := [(h1, .inr (0, [.int h1_0, .int h1_1, .ref h1_2, .ref h1_3, .ref h1_4, .ref h1_5, .ref h1_6, .ref h1_7, .ref h1_8, .ref h1_9, .ref h1_10, .ref h1_11, .ref h1_12])), (h1_9, .inl (yh1_9, 60, .inl fh1_9))]) hP hD [2, 6] [0, 1, 3, 4, 5] rfl rfl (by decide) (by decide) hk1 hFc hP1 hD1
        have hP := hP.sub (ws' := [(h0, .inr (4, [.int h0_0, .long h0_1, .long h0_2, .ref h0_3, .long h0_4])), (h0_3, .inl (yh0_3, 60, .inr (.inl fh0_3))), (h1, .inr (0, [.int h1_0, .int h1_1, .ref h1_2, .ref h1_3, .ref h1_4, .ref h1_5, .ref h1_6, .ref h1_7, .ref h1_8, .ref h1_9, .ref h1_10, .ref h1_11, .ref h1_12])), (h1_4, .inl (yh1_4, 60, .inl fh1_4)), (h1_7, .inl (yh1_7, 720, .inl fh1_7)), (h1_8, .inl (yh1_8, 60, .inl fh1_8)), (h1_9, .inl (yh1_9, 60, .inl fh1_9))]) [0, 1, 5, 2, 3, 4, 6] rfl
        have hD := hD.sub (ws' := [(h0, .inr (4, [.int h0_0, .long h0_1, .long h0_2, .ref h0_3, .long h0_4])), (h0_3, .inl (yh0_3, 60, .inr (.inl fh0_3))), (h1, .inr (0, [.int h1_0, .int h1_1, .ref h1_2, .ref h1_3, .ref h1_4, .ref h1_5, .ref h1_6, .ref h1_7, .ref h1_8, .ref h1_9, .ref h1_10, .ref h1_11, .ref h1_12])), (h1_4, .inl (yh1_4, 60, .inl fh1_4)), (h1_7, .inl (yh1_7, 720, .inl fh1_7)), (h1_8, .inl (yh1_8, 60, .inl fh1_8)), (h1_9, .inl (yh1_9, 60, .inl fh1_9))]) [0, 1, 5, 2, 3, 4, 6] (by decide) rfl
        have hP : va_P (dC, dI) vwCl [(h0, .inr (4, [.int h0_0, .long h0_1, .long h0_2, .ref h0_3, .long h0_4])), (h0_3, .inl (yh0_3, 60, .inr (.inl fh0_3))), (h1, .inr (0, [.int h1_0, .int h1_1, .ref h1_2, .ref h1_3, .ref h1_4, .ref h1_5, .ref h1_6, .ref h1_7, .ref h1_8, .ref h1_9, .ref h1_10, .ref h1_11, .ref h1_12])), (h1_4, .inl (yh1_4, 60, .inl fh1_4)), (h1_7, .inl (yh1_7, 720, .inl fh1_7)), (h1_8, .inl (yh1_8, 60, .inl fh1_8)), (h1_9, .inl (yh1_9, 60, .inl fh1_9))] Hy34 := hP
        have hD : va_D A [(h0, .inr (4, [.int h0_0, .long h0_1, .long h0_2, .ref h0_3, .long h0_4])), (h0_3, .inl (yh0_3, 60, .inr (.inl fh0_3))), (h1, .inr (0, [.int h1_0, .int h1_1, .ref h1_2, .ref h1_3, .ref h1_4, .ref h1_5, .ref h1_6, .ref h1_7, .ref h1_8, .ref h1_9, .ref h1_10, .ref h1_11, .ref h1_12])), (h1_4, .inl (yh1_4, 60, .inl fh1_4)), (h1_7, .inl (yh1_7, 720, .inl fh1_7)), (h1_8, .inl (yh1_8, 60, .inl fh1_8)), (h1_9, .inl (yh1_9, 60, .inl fh1_9))] := hD
        have by36 : IV 0 1 ry35 := hw
        refine W_abs (fun GWy39 eGy40 => ?_)
        have jny41 : ∀ (my38 : Int64) (HGWy39 : Heap) (locs : List Loc) (ls : Array Slot), va_P (dC, dI) vwCl [(h0, .inr (4, [.int h0_0, .long h0_1, .long h0_2, .ref h0_3, .long h0_4])), (h0_3, .inl (yh0_3, 60, .inr (.inl fh0_3))), (h1, .inr (0, [.int h1_0, .int h1_1, .ref h1_2, .ref h1_3, .ref h1_4, .ref h1_5, .ref h1_6, .ref h1_7, .ref h1_8, .ref h1_9, .ref h1_10, .ref h1_11, .ref h1_12])), (h1_4, .inl (yh1_4, 60, .inl fh1_4)), (h1_7, .inl (yh1_7, 720, .inl fh1_7)), (h1_8, .inl (yh1_8, 60, .inl fh1_8)), (h1_9, .inl (yh1_9, 60, .inl fh1_9))] HGWy39 → va_D A [(h0, .inr (4, [.int h0_0, .long h0_1, .long h0_2, .ref h0_3, .long h0_4])), (h0_3, .inl (yh0_3, 60, .inr (.inl fh0_3))), (h1, .inr (0, [.int h1_0, .int h1_1, .ref h1_2, .ref h1_3, .ref h1_4, .ref h1_5, .ref h1_6, .ref h1_7, .ref h1_8, .ref h1_9, .ref h1_10, .ref h1_11, .ref h1_12])), (h1_4, .inl (yh1_4, 60, .inl fh1_4)), (h1_7, .inl (yh1_7, 720, .inl fh1_7)), (h1_8, .inl (yh1_8, 60, .inl fh1_8)), (h1_9, .inl (yh1_9, 60, .inl fh1_9))] → va_S A s.heap HGWy39 locs → lv_has ls 15 [(11, .long zy33), (10, .int my12), (9, .int ry2), (7, .long my13), (5, .long my14), (3, .long my15), (0, .ref h0), (1, .ref h1), (2, .int p2)] → GWy39 HGWy39 locs 0 0 (F0 m 64 ls [.long my38]) := by
          intro my38 HGWy39 locs ls hP hD hS hl
          refine (eGy40 _ _ _ _ _).mpr ?_
          refine lv_lstore (lv' := [(13, .long my38), (11, .long zy33), (10, .int my12), (9, .int ry2), (7, .long my13), (5, .long my14), (3, .long my15), (0, .ref h0), (1, .ref h1), (2, .int p2)]) hx hb dX5_busRow_64 hl (by decide) rfl (fun ls hl => ?_)
          refine lv_lload_n hx hb dX5_busRow_66 rfl (lv_at hl 6 rfl) ?_
          refine lv_lload hx hb dX5_busRow_67 (lv_at hl 0 rfl) ?_
          refine lv_aload_n hx hb dX5_busRow_69 rfl (lv_at hl 7 rfl) ?_
          refine va_get (D := (dC, dI)) (ci := 4) (v := .ref h0_3) (C := RX5) (T := TX5) (N := 5) hx hb hts inX5_ hown hK hP 0 rfl rfl 3 (by decide) (hts (.fieldLink RX5 9 "GateWheel$Worlds" "rows" "[J") (List.mem_of_getElem? (i := 1) rfl)) (fun _ h9 => h9) rfl dX5_busRow_70 ?_
          refine lv_aload_n hx hb dX5_busRow_73 rfl (lv_at hl 8 rfl) ?_
          refine lv_iload_n hx hb dX5_busRow_74 rfl (lv_at hl 9 rfl) ?_
          refine lv_iconst (v := 2) hx hb dX5_busRow_75 (by decide) ?_
          refine lv_iload hx hb dX5_busRow_76 (lv_at hl 2 rfl) ?_
          refine lv_imul hx hb dX5_busRow_78 ?_
          refine lv_topi (fun zy42 ezy42 => ?_)
          have by43 : IV 0 10 zy42 := IV_mul ezy42 (IV_mk (a := 2) (b := 2) (by decide) (by decide)) by25 (by decide) (by decide) (by decide) (by decide) (by decide)
          have hPc := hP.sub (ws' := [(h1, .inr (0, [.int h1_0, .int h1_1, .ref h1_2, .ref h1_3, .ref h1_4, .ref h1_5, .ref h1_6, .ref h1_7, .ref h1_8, .ref h1_9, .ref h1_10, .ref h1_11, .ref h1_12])), (h1_7, .inl (yh1_7, 720, .inl fh1_7))]) [2, 4] rfl
          have hDc := hD.sub (ws' := [(h1, .inr (0, [.int h1_0, .int h1_1, .ref h1_2, .ref h1_3, .ref h1_4, .ref h1_5, .ref h1_6, .ref h1_7, .ref h1_8, .ref h1_9, .ref h1_10, .ref h1_11, .ref h1_12])), (h1_7, .inl (yh1_7, 720, .inl fh1_7))]) [2, 4] (by decide) rfl
          have hKc := hK.sub (tys' := [(yh1_7, .int)]) [2] rfl
          have hFc := va_free (wc := [(h1, .inr (0, [.int h1_0, .int h1_1, .ref h1_2, .ref h1_3, .ref h1_4, .ref h1_5, .ref h1_6, .ref h1_7, .ref h1_8, .ref h1_9, .ref h1_10, .ref h1_11, .ref h1_12])), (h1_7, .inl (yh1_7, 720, .inl fh1_7))]) hD hS hA [2, 4] rfl
          refine va_calli (va_runV (As := [.int p2, .int zy42]) (rest := [.ref h0_3, .long my38, .long my15]) ⟨hx, hb, hml, hown, hts⟩ (s_X0_part l dC dI h1 h1_7 h1_0 h1_1 h1_2 h1_3 h1_4 h1_5 h1_6 h1_8 h1_9 h1_10 h1_11 h1_12 yh1_7 fh1_7 p2 zy42 HGWy39.size hy_h1_0 hy_p2 (IV_wk by43 (by decide) (by decide)) hy_fh1_7) (cwV 2 hts gX5_busRow_X0_part rfl rfl rfl (by decide +kernel) ⟨Nat.le_of_ble_eq_true rfl, Nat.le_of_ble_eq_true rfl⟩) ⟨fun a U g mk q => by obtain ⟨q0, q1, qP, qK, qD⟩ := q; exact ⟨q0, q1, qP, va_K.moved (u := U) (U := U.calling g mk a) (Vm.Alike.refl U.vm) qK, qD⟩, va_recv hKc hPc (ci := 0) (q0 := 0) rfl rfl, fun U hU hW => ⟨rfl, by rw [hU], by rw [hU]; exact hPc, va_K.moved hW.alike hKc, hDc.weaken (fun _ _ _ _ => trivial)⟩⟩ rfl rfl hl.1 rfl (lv_room (Nat.le_of_ble_eq_true rfl)) dX5_busRow_79 ⟨Nat.le_of_ble_eq_true rfl, Nat.le_of_ble_eq_true rfl⟩) hS (fun q _ h => hFc q h) hFc (fun ry45 u t Hy44 locs ht hvm hw hB hz1 hk1 hS => ?_)
          obtain ⟨hP1, hK1, hD1⟩ := hB
          rw [ht] at hP1
          obtain ⟨hP, hD⟩ := va_join (wr := [(h0, .inr (4, [.int h0_0, .long h0_1, .long h0_2, .ref h0_3, .long h0_4])), (h0_3, .inl (yh0_3, 60, .inr (.inl fh0_3))), (h1_4, .inl (yh1_4, 60, .inl fh1_4)), (h1_8, .inl (yh1_8, 60, .inl fh1_8)), (h1_9, .inl (yh1_9, 60, .inl fh1_9))]) (w1 := [(h1, .inr (0, [.int h1_0, .int h1_1, .ref h1_2, .ref h1_3, .ref h1_4, .ref h1_5, .ref h1_6, .ref h1_7, .ref h1_8, .ref h1_9, .ref h1_10, .ref h1_11, .ref h1_12])), (h1_7, .inl (yh1_7, 720, .inl fh1_7))]) hP hD [2, 4] [0, 1, 3, 5, 6] rfl rfl (by decide) (by decide) hk1 hFc hP1 hD1
          have hP := hP.sub (ws' := [(h0, .inr (4, [.int h0_0, .long h0_1, .long h0_2, .ref h0_3, .long h0_4])), (h0_3, .inl (yh0_3, 60, .inr (.inl fh0_3))), (h1, .inr (0, [.int h1_0, .int h1_1, .ref h1_2, .ref h1_3, .ref h1_4, .ref h1_5, .ref h1_6, .ref h1_7, .ref h1_8, .ref h1_9, .ref h1_10, .ref h1_11, .ref h1_12])), (h1_4, .inl (yh1_4, 60, .inl fh1_4)), (h1_7, .inl (yh1_7, 720, .inl fh1_7)), (h1_8, .inl (yh1_8, 60, .inl fh1_8)), (h1_9, .inl (yh1_9, 60, .inl fh1_9))]) [0, 1, 5, 2, 6, 3, 4] rfl
          have hD := hD.sub (ws' := [(h0, .inr (4, [.int h0_0, .long h0_1, .long h0_2, .ref h0_3, .long h0_4])), (h0_3, .inl (yh0_3, 60, .inr (.inl fh0_3))), (h1, .inr (0, [.int h1_0, .int h1_1, .ref h1_2, .ref h1_3, .ref h1_4, .ref h1_5, .ref h1_6, .ref h1_7, .ref h1_8, .ref h1_9, .ref h1_10, .ref h1_11, .ref h1_12])), (h1_4, .inl (yh1_4, 60, .inl fh1_4)), (h1_7, .inl (yh1_7, 720, .inl fh1_7)), (h1_8, .inl (yh1_8, 60, .inl fh1_8)), (h1_9, .inl (yh1_9, 60, .inl fh1_9))]) [0, 1, 5, 2, 6, 3, 4] (by decide) rfl
          have hP : va_P (dC, dI) vwCl [(h0, .inr (4, [.int h0_0, .long h0_1, .long h0_2, .ref h0_3, .long h0_4])), (h0_3, .inl (yh0_3, 60, .inr (.inl fh0_3))), (h1, .inr (0, [.int h1_0, .int h1_1, .ref h1_2, .ref h1_3, .ref h1_4, .ref h1_5, .ref h1_6, .ref h1_7, .ref h1_8, .ref h1_9, .ref h1_10, .ref h1_11, .ref h1_12])), (h1_4, .inl (yh1_4, 60, .inl fh1_4)), (h1_7, .inl (yh1_7, 720, .inl fh1_7)), (h1_8, .inl (yh1_8, 60, .inl fh1_8)), (h1_9, .inl (yh1_9, 60, .inl fh1_9))] Hy44 := hP
          have hD : va_D A [(h0, .inr (4, [.int h0_0, .long h0_1, .long h0_2, .ref h0_3, .long h0_4])), (h0_3, .inl (yh0_3, 60, .inr (.inl fh0_3))), (h1, .inr (0, [.int h1_0, .int h1_1, .ref h1_2, .ref h1_3, .ref h1_4, .ref h1_5, .ref h1_6, .ref h1_7, .ref h1_8, .ref h1_9, .ref h1_10, .ref h1_11, .ref h1_12])), (h1_4, .inl (yh1_4, 60, .inl fh1_4)), (h1_7, .inl (yh1_7, 720, .inl fh1_7)), (h1_8, .inl (yh1_8, 60, .inl fh1_8)), (h1_9, .inl (yh1_9, 60, .inl fh1_9))] := hD
          have by46 : IV 0 59 ry45 := hw
          refine va_lald hx hb hK hP 1 0 rfl rfl (IV_in by46 (by decide) (by decide)) dX5_busRow_82 ?_
          refine lv_topl (fun zy47 ezy47 => ?_)
          refine lv_land hx hb dX5_busRow_83 ?_
          refine lv_topl (fun zy48 ezy48 => ?_)
          refine lv_lor hx hb dX5_busRow_84 ?_
          refine lv_topl (fun zy49 ezy49 => ?_)
          refine lv_lstore_n (lv' := [(3, .long zy49), (13, .long my38), (11, .long zy33), (10, .int my12), (9, .int ry2), (7, .long my13), (5, .long my14), (0, .ref h0), (1, .ref h1), (2, .int p2)]) hx hb dX5_busRow_85 rfl hl (by decide) rfl (fun ls hl => ?_)
          refine lv_lload hx hb dX5_busRow_86 (lv_at hl 5 rfl) ?_
          refine lv_lload hx hb dX5_busRow_88 (lv_at hl 6 rfl) ?_
          refine lv_lload hx hb dX5_busRow_90 (lv_at hl 1 rfl) ?_
          refine lv_land hx hb dX5_busRow_92 ?_
          refine lv_topl (fun zy50 ezy50 => ?_)
          refine lv_lor hx hb dX5_busRow_93 ?_
          refine lv_topl (fun zy51 ezy51 => ?_)
          refine lv_lstore (lv' := [(7, .long zy51), (3, .long zy49), (13, .long my38), (11, .long zy33), (10, .int my12), (9, .int ry2), (5, .long my14), (0, .ref h0), (1, .ref h1), (2, .int p2)]) hx hb dX5_busRow_94 hl (by decide) rfl (fun ls hl => ?_)
          refine lv_lload hx hb dX5_busRow_96 (lv_at hl 6 rfl) ?_
          refine lv_lload hx hb dX5_busRow_98 (lv_at hl 2 rfl) ?_
          refine lv_lor hx hb dX5_busRow_100 ?_
          refine lv_topl (fun zy52 ezy52 => ?_)
          refine lv_lstore (lv' := [(5, .long zy52), (7, .long zy51), (3, .long zy49), (13, .long my38), (11, .long zy33), (10, .int my12), (9, .int ry2), (0, .ref h0), (1, .ref h1), (2, .int p2)]) hx hb dX5_busRow_101 hl (by decide) rfl (fun ls hl => ?_)
          obtain ⟨zy53, ezy53⟩ : ∃ y : Int32, y = my12 + Int32.ofInt 1 := ⟨_, rfl⟩
          have by54 : IV 1 6 zy53 := IV_add (c := 1) (d := 1) ezy53 by25 (IV_mk (by decide) (by decide)) (by decide) (by decide) (by decide) (by decide)
          refine lv_iinc (v := zy53) (lv' := [(10, .int zy53), (5, .long zy52), (7, .long zy51), (3, .long zy49), (13, .long my38), (11, .long zy33), (9, .int ry2), (0, .ref h0), (1, .ref h1), (2, .int p2)]) hx hb dX5_busRow_103 hl (k := 5) rfl ezy53.symm (by decide) rfl (fun ls hl => ?_)
          refine lv_goto (tgt := 18) hx hb dX5_busRow_106 (by decide) ?_
          exact (eGy17 _ _ _ _ _).mp (ihGWy16 zy53 zy51 zy52 zy49 _ _ _ (IV_u1 hmGWy16 (IV_step (c := 1) ezy53 by25 (by decide) (by decide) (by decide)) (by decide)) (IV_wk by54 (by decide) (by decide)) hP hD hS (lv_sub hl [0, 6, 2, 1, 3, 7, 8, 9] rfl))
        refine (eGy40 _ _ _ _ _).mpr ?_
        refine lv_if_eq (tgt := 62) hx hb dX5_busRow_50 (by decide) (fun cy37 => ?_) (fun cy37 => ?_)
        · have h_cy37 := cy37
          have by55 : IV 0 0 ry35 := IV_eq_l cy37 by36 (IV_mk (a := 0) (b := 0) (by decide) (by decide)) (by decide) (by decide)
          refine lv_lload hx hb dX5_busRow_62 (lv_at hl 0 rfl) ?_
          exact (eGy40 _ _ _ _ _).mp (jny41 zy33 _ _ _ hP hD hS (lv_sub hl [0, 1, 2, 3, 4, 5, 6, 7, 8] rfl))
        · have h_cy37 := cy37
          have by56 : IV 1 1 ry35 := IV_ne_lo cy37 by36 (IV_mk (a := 0) (b := 0) (by decide) (by decide)) (by decide) (by decide) (by decide)
          refine lv_lload hx hb dX5_busRow_53 (lv_at hl 0 rfl) ?_
          refine lv_ldc2 hx hb hown (hts (.constantLong RX5 26 (-1)) (List.mem_of_getElem? (i := 2) rfl)) dX5_busRow_55 ?_
          refine lv_lxor hx hb dX5_busRow_58 ?_
          refine lv_topl (fun zy57 ezy57 => ?_)
          refine lv_goto (tgt := 64) hx hb dX5_busRow_59 (by decide) ?_
          exact (eGy40 _ _ _ _ _).mp (jny41 zy57 _ _ _ hP hD hS (lv_sub hl [0, 1, 2, 3, 4, 5, 6, 7, 8] rfl))
  exact lpy18 7 0 0 0 0 _ _ _ (IV_ui (IV_mk (a := 0) (b := 0) (by decide) (by decide)) (by decide)) (IV_mk (by decide) (by decide)) hP hD hS (lv_sub hl [0, 1, 2, 3, 4, 5, 6, 7] rfl)

set_option maxHeartbeats 4000000 in
set_option maxRecDepth 100000 in
theorem s_X5_followOthers (l : Launch) (dC : Nat → ClassId) (dI : Nat → Nat → Nat) (h0 : Nat) (h0_3 : Nat) (h1 : Nat) (h1_4 : Nat) (h1_5 : Nat) (h1_7 : Nat) (h1_8 : Nat) (h1_9 : Nat) (h1_12 : Nat) (h0_0 : Int32) (h0_1 : Int64) (h0_2 : Int64) (h0_4 : Int64) (yh0_3 : ClassId) (fh0_3 : Nat → Int64) (h1_0 : Int32) (h1_1 : Int32) (h1_2 : Nat) (h1_3 : Nat) (h1_6 : Nat) (h1_10 : Nat) (h1_11 : Nat) (yh1_4 : ClassId) (fh1_4 : Nat → Int32) (yh1_5 : ClassId) (fh1_5 : Nat → Int32) (yh1_7 : ClassId) (fh1_7 : Nat → Int32) (yh1_8 : ClassId) (fh1_8 : Nat → Int32) (yh1_9 : ClassId) (fh1_9 : Nat → Int32) (yh1_12 : ClassId) (fh1_12 : Nat → Int32) (sz : Nat) (hy_h1_0 : IV 0 60 h1_0) (hy_fh1_7 : AR 0 59 fh1_7) (hy_fh1_8 : AR 0 12 fh1_8) (hy_fh1_12 : AR 0 59 fh1_12) : Met l yX5_followOthers wsX5_followOthers ({ frames := 2, cells := 0, slots := 0, locals := 56 }) (va_Pc [.ref h0, .ref h1] (fun U => U.heap.size = sz ∧ va_P (dC, dI) vwCl [(h0, .inr (4, [.int h0_0, .long h0_1, .long h0_2, .ref h0_3, .long h0_4])), (h0_3, .inl (yh0_3, 60, .inr (.inl fh0_3))), (h1, .inr (0, [.int h1_0, .int h1_1, .ref h1_2, .ref h1_3, .ref h1_4, .ref h1_5, .ref h1_6, .ref h1_7, .ref h1_8, .ref h1_9, .ref h1_10, .ref h1_11, .ref h1_12])), (h1_4, .inl (yh1_4, 60, .inl fh1_4)), (h1_5, .inl (yh1_5, 60, .inl fh1_5)), (h1_7, .inl (yh1_7, 720, .inl fh1_7)), (h1_8, .inl (yh1_8, 60, .inl fh1_8)), (h1_9, .inl (yh1_9, 60, .inl fh1_9)), (h1_12, .inl (yh1_12, 60, .inl fh1_12))] U.heap ∧ va_K (dC, dI) vwCl [(yh0_3, .long), (yh1_4, .int), (yh1_5, .int), (yh1_7, .int), (yh1_8, .int), (yh1_9, .int), (yh1_12, .int)] U ∧ va_D (fun _ => True) [(h0, .inr (4, [.int h0_0, .long h0_1, .long h0_2, .ref h0_3, .long h0_4])), (h0_3, .inl (yh0_3, 60, .inr (.inl fh0_3))), (h1, .inr (0, [.int h1_0, .int h1_1, .ref h1_2, .ref h1_3, .ref h1_4, .ref h1_5, .ref h1_6, .ref h1_7, .ref h1_8, .ref h1_9, .ref h1_10, .ref h1_11, .ref h1_12])), (h1_4, .inl (yh1_4, 60, .inl fh1_4)), (h1_5, .inl (yh1_5, 60, .inl fh1_5)), (h1_7, .inl (yh1_7, 720, .inl fh1_7)), (h1_8, .inl (yh1_8, 60, .inl fh1_8)), (h1_9, .inl (yh1_9, 60, .inl fh1_9)), (h1_12, .inl (yh1_12, 60, .inl fh1_12))])) (va_Qv (fun (_ : Unit) => True) (fun (_ : Unit) (t : State) => ∃ (my38 : Int64), ∃ (fy39 : Nat → Int64), va_P (dC, dI) vwCl [(h0, .inr (4, [.int h0_0, .long h0_1, .long h0_2, .ref h0_3, .long my38])), (h0_3, .inl (yh0_3, 60, .inr (.inl fy39))), (h1, .inr (0, [.int h1_0, .int h1_1, .ref h1_2, .ref h1_3, .ref h1_4, .ref h1_5, .ref h1_6, .ref h1_7, .ref h1_8, .ref h1_9, .ref h1_10, .ref h1_11, .ref h1_12])), (h1_4, .inl (yh1_4, 60, .inl fh1_4)), (h1_5, .inl (yh1_5, 60, .inl fh1_5)), (h1_7, .inl (yh1_7, 720, .inl fh1_7)), (h1_8, .inl (yh1_8, 60, .inl fh1_8)), (h1_9, .inl (yh1_9, 60, .inl fh1_9)), (h1_12, .inl (yh1_12, 60, .inl fh1_12))] t.heap ∧ va_K (dC, dI) vwCl [(yh0_3, .long), (yh1_4, .int), (yh1_5, .int), (yh1_7, .int), (yh1_8, .int), (yh1_9, .int), (yh1_12, .int)] t ∧ va_D (va_A [(h0, .inr (4, [.int h0_0, .long h0_1, .long h0_2, .ref h0_3, .long h0_4])), (h0_3, .inl (yh0_3, 60, .inr (.inl fh0_3))), (h1, .inr (0, [.int h1_0, .int h1_1, .ref h1_2, .ref h1_3, .ref h1_4, .ref h1_5, .ref h1_6, .ref h1_7, .ref h1_8, .ref h1_9, .ref h1_10, .ref h1_11, .ref h1_12])), (h1_4, .inl (yh1_4, 60, .inl fh1_4)), (h1_5, .inl (yh1_5, 60, .inl fh1_5)), (h1_7, .inl (yh1_7, 720, .inl fh1_7)), (h1_8, .inl (yh1_8, 60, .inl fh1_8)), (h1_9, .inl (yh1_9, 60, .inl fh1_9)), (h1_12, .inl (yh1_12, 60, .inl fh1_12))] sz) [(h0, .inr (4, [.int h0_0, .long h0_1, .long h0_2, .ref h0_3, .long my38])), (h0_3, .inl (yh0_3, 60, .inr (.inl fy39))), (h1, .inr (0, [.int h1_0, .int h1_1, .ref h1_2, .ref h1_3, .ref h1_4, .ref h1_5, .ref h1_6, .ref h1_7, .ref h1_8, .ref h1_9, .ref h1_10, .ref h1_11, .ref h1_12])), (h1_4, .inl (yh1_4, 60, .inl fh1_4)), (h1_5, .inl (yh1_5, 60, .inl fh1_5)), (h1_7, .inl (yh1_7, 720, .inl fh1_7)), (h1_8, .inl (yh1_8, 60, .inl fh1_8)), (h1_9, .inl (yh1_9, 60, .inl fh1_9)), (h1_12, .inl (yh1_12, 60, .inl fh1_12))]) (va_A [(h0, .inr (4, [.int h0_0, .long h0_1, .long h0_2, .ref h0_3, .long h0_4])), (h0_3, .inl (yh0_3, 60, .inr (.inl fh0_3))), (h1, .inr (0, [.int h1_0, .int h1_1, .ref h1_2, .ref h1_3, .ref h1_4, .ref h1_5, .ref h1_6, .ref h1_7, .ref h1_8, .ref h1_9, .ref h1_10, .ref h1_11, .ref h1_12])), (h1_4, .inl (yh1_4, 60, .inl fh1_4)), (h1_5, .inl (yh1_5, 60, .inl fh1_5)), (h1_7, .inl (yh1_7, 720, .inl fh1_7)), (h1_8, .inl (yh1_8, 60, .inl fh1_8)), (h1_9, .inl (yh1_9, 60, .inl fh1_9)), (h1_12, .inl (yh1_12, 60, .inl fh1_12))] sz)) 0 0 (va_A [(h0, .inr (4, [.int h0_0, .long h0_1, .long h0_2, .ref h0_3, .long h0_4])), (h0_3, .inl (yh0_3, 60, .inr (.inl fh0_3))), (h1, .inr (0, [.int h1_0, .int h1_1, .ref h1_2, .ref h1_3, .ref h1_4, .ref h1_5, .ref h1_6, .ref h1_7, .ref h1_8, .ref h1_9, .ref h1_10, .ref h1_11, .ref h1_12])), (h1_4, .inl (yh1_4, 60, .inl fh1_4)), (h1_5, .inl (yh1_5, 60, .inl fh1_5)), (h1_7, .inl (yh1_7, 720, .inl fh1_7)), (h1_8, .inl (yh1_8, 60, .inl fh1_8)), (h1_9, .inl (yh1_9, 60, .inl fh1_9)), (h1_12, .inl (yh1_12, 60, .inl fh1_12))] sz) := by
  refine Met.ofW (cc := cX5_followOthers) (maxL := 4) (ret := none) (by decide +kernel) rfl ?_
  intro p e s m args below meth c s₁ B hml hv
  obtain ⟨rfl, hsz, hP, hK, hD0⟩ := hv
  have hx := B.exec
  have hb := B.bytes
  have hr := B.returns
  have hts := atoms_spec (ws := wsX5_followOthers) B.pre
  have hown : s.vm.findClass RX5 = some m.cls := findClass_of_methodNamed B.named
  have hlocks := B.notSynchronized
  have inX0_ : ∀ w ∈ wsX00, w ∈ wsX5_followOthers := fun _ h => List.mem_cons_of_mem _ (List.mem_append_left _ (List.mem_append_right _ h))
  have inX5_ : ∀ w ∈ wsX50, w ∈ wsX5_followOthers := fun _ h => List.mem_cons_of_mem _ (List.mem_append_right _ h)
  subst hsz
  have hD := hD0.self (sz := s.heap.size)
  generalize hAe : va_A [(h0, .inr (4, [.int h0_0, .long h0_1, .long h0_2, .ref h0_3, .long h0_4])), (h0_3, .inl (yh0_3, 60, .inr (.inl fh0_3))), (h1, .inr (0, [.int h1_0, .int h1_1, .ref h1_2, .ref h1_3, .ref h1_4, .ref h1_5, .ref h1_6, .ref h1_7, .ref h1_8, .ref h1_9, .ref h1_10, .ref h1_11, .ref h1_12])), (h1_4, .inl (yh1_4, 60, .inl fh1_4)), (h1_5, .inl (yh1_5, 60, .inl fh1_5)), (h1_7, .inl (yh1_7, 720, .inl fh1_7)), (h1_8, .inl (yh1_8, 60, .inl fh1_8)), (h1_9, .inl (yh1_9, 60, .inl fh1_9)), (h1_12, .inl (yh1_12, 60, .inl fh1_12))] s.heap.size = A at hD ⊢
  have hA : ∀ q : Nat, s.heap.size ≤ q → A q := fun q h => by rw [← hAe]; exact Or.inr h
  have hS : va_S A s.heap s.heap [] := va_S.rf
  have hP : va_P (dC, dI) vwCl [(h0, .inr (4, [.int h0_0, .long h0_1, .long h0_2, .ref h0_3, .long h0_4])), (h0_3, .inl (yh0_3, 60, .inr (.inl fh0_3))), (h1, .inr (0, [.int h1_0, .int h1_1, .ref h1_2, .ref h1_3, .ref h1_4, .ref h1_5, .ref h1_6, .ref h1_7, .ref h1_8, .ref h1_9, .ref h1_10, .ref h1_11, .ref h1_12])), (h1_4, .inl (yh1_4, 60, .inl fh1_4)), (h1_5, .inl (yh1_5, 60, .inl fh1_5)), (h1_7, .inl (yh1_7, 720, .inl fh1_7)), (h1_8, .inl (yh1_8, 60, .inl fh1_8)), (h1_9, .inl (yh1_9, 60, .inl fh1_9)), (h1_12, .inl (yh1_12, 60, .inl fh1_12))] s.heap := hP
  have hl := lv_entry ([.ref h0, .ref h1]) (n := 4) (Nat.le_of_ble_eq_true rfl)
  rw [lg_entry_eq]
  generalize (lg_sl ([.ref h0, .ref h1]) ++ List.replicate (4 - (lg_sl ([.ref h0, .ref h1])).length) Slot.unset).toArray = ls at hl ⊢
  have hl : lv_has ls 4 [(0, .ref h0), (1, .ref h1)] := hl
  refine lv_iconst (v := 0) hx hb dX5_followOthers_0 (by decide) ?_
  refine lv_istore_n (lv' := [(2, .int 0), (0, .ref h0), (1, .ref h1)]) hx hb dX5_followOthers_1 rfl hl (by decide) rfl (fun ls hl => ?_)
  refine W_abs (fun GWy10 eGy11 => ?_)
  have lpy12 : ∀ (n : Nat) (my7 : Int32) (my8 : Int64) (fy9 : Nat → Int64) (HGWy10 : Heap) (locs : List Loc) (ls : Array Slot), 61 - my7.toInt ≤ (n : Int) → IV 0 60 my7 → va_P (dC, dI) vwCl [(h0, .inr (4, [.int h0_0, .long h0_1, .long h0_2, .ref h0_3, .long my8])), (h0_3, .inl (yh0_3, 60, .inr (.inl fy9))), (h1, .inr (0, [.int h1_0, .int h1_1, .ref h1_2, .ref h1_3, .ref h1_4, .ref h1_5, .ref h1_6, .ref h1_7, .ref h1_8, .ref h1_9, .ref h1_10, .ref h1_11, .ref h1_12])), (h1_4, .inl (yh1_4, 60, .inl fh1_4)), (h1_5, .inl (yh1_5, 60, .inl fh1_5)), (h1_7, .inl (yh1_7, 720, .inl fh1_7)), (h1_8, .inl (yh1_8, 60, .inl fh1_8)), (h1_9, .inl (yh1_9, 60, .inl fh1_9)), (h1_12, .inl (yh1_12, 60, .inl fh1_12))] HGWy10 → va_D A [(h0, .inr (4, [.int h0_0, .long h0_1, .long h0_2, .ref h0_3, .long my8])), (h0_3, .inl (yh0_3, 60, .inr (.inl fy9))), (h1, .inr (0, [.int h1_0, .int h1_1, .ref h1_2, .ref h1_3, .ref h1_4, .ref h1_5, .ref h1_6, .ref h1_7, .ref h1_8, .ref h1_9, .ref h1_10, .ref h1_11, .ref h1_12])), (h1_4, .inl (yh1_4, 60, .inl fh1_4)), (h1_5, .inl (yh1_5, 60, .inl fh1_5)), (h1_7, .inl (yh1_7, 720, .inl fh1_7)), (h1_8, .inl (yh1_8, 60, .inl fh1_8)), (h1_9, .inl (yh1_9, 60, .inl fh1_9)), (h1_12, .inl (yh1_12, 60, .inl fh1_12))] → va_S A s.heap HGWy10 locs → lv_has ls 4 [(2, .int my7), (0, .ref h0), (1, .ref h1)] → GWy10 HGWy10 locs 0 0 (F0 m 2 ls []) := by
    intro n
    induction n with
    | zero =>
      intro my7 my8 fy9 HGWy10 locs ls hmGWy10 hmy7 hP hD hS hl
      exact (IV_u0 hmy7 hmGWy10 (by decide)).elim
    | succ n ihGWy10 =>
      intro my7 my8 fy9 HGWy10 locs ls hmGWy10 hmy7 hP hD hS hl
      refine (eGy11 _ _ _ _ _).mpr ?_
      refine lv_iload_n hx hb dX5_followOthers_2 rfl (lv_at hl 0 rfl) ?_
      refine lv_aload_n hx hb dX5_followOthers_3 rfl (lv_at hl 2 rfl) ?_
      refine va_get (D := (dC, dI)) (ci := 0) (v := .int h1_0) (C := RX0) (T := TX0) (N := 13) hx hb hts inX0_ hown hK hP 2 rfl rfl 0 (by decide) (hts (.fieldLink RX5 46 "GateWheel$Circuit" "count" "I") (List.mem_of_getElem? (i := 1) rfl)) (fun _ h9 => h9) rfl dX5_followOthers_4 ?_
      refine lv_icmp_ge (tgt := 70) hx hb dX5_followOthers_7 (by decide) (fun cy13 => ?_) (fun cy13 => ?_)
      · have h_cy13 := cy13
        exact W.vret hx hb hr (fun t ht hW => ⟨⟨(), rfl, trivial, my8, fy9, by rw [ht]; exact hP, va_K.moved hW.alike hK, hD⟩, hS.F ht⟩) hS.2.2 dX5_followOthers_70
      · have h_cy13 := cy13
        have by14 : IV 1 60 h1_0 := IV_nle_l cy13 hy_h1_0 hmy7 (by decide) (by decide)
        have by15 : IV 0 59 my7 := IV_nle_r cy13 hy_h1_0 hmy7 (by decide) (by decide)
        refine lv_aload_n hx hb dX5_followOthers_10 rfl (lv_at hl 2 rfl) ?_
        refine va_get (D := (dC, dI)) (ci := 0) (v := .ref h1_12) (C := RX0) (T := TX0) (N := 13) hx hb hts inX0_ hown hK hP 2 rfl rfl 12 (by decide) (hts (.fieldLink RX5 62 "GateWheel$Circuit" "order" "[I") (List.mem_of_getElem? (i := 2) rfl)) (fun _ h9 => h9) rfl dX5_followOthers_11 ?_
        refine lv_iload_n hx hb dX5_followOthers_14 rfl (lv_at hl 0 rfl) ?_
        refine va_iald hx hb hK hP 8 6 rfl rfl (IV_in by15 (by decide) (by decide)) dX5_followOthers_15 ?_
        refine lv_topi (fun zy16 ezy16 => ?_)
        have by17 : IV 0 59 zy16 := AR_get hy_fh1_12 ezy16
        refine lv_istore_n (lv' := [(3, .int zy16), (2, .int my7), (0, .ref h0), (1, .ref h1)]) hx hb dX5_followOthers_16 rfl hl (by decide) rfl (fun ls hl => ?_)
        refine lv_aload_n hx hb dX5_followOthers_17 rfl (lv_at hl 3 rfl) ?_
        refine va_get (D := (dC, dI)) (ci := 0) (v := .ref h1_4) (C := RX0) (T := TX0) (N := 13) hx hb hts inX0_ hown hK hP 2 rfl rfl 4 (by decide) (hts (.fieldLink RX5 66 "GateWheel$Circuit" "kinds" "[I") (List.mem_of_getElem? (i := 3) rfl)) (fun _ h9 => h9) rfl dX5_followOthers_18 ?_
        refine lv_iload_n hx hb dX5_followOthers_21 rfl (lv_at hl 0 rfl) ?_
        refine va_iald hx hb hK hP 3 1 rfl rfl (IV_in by17 (by decide) (by decide)) dX5_followOthers_22 ?_
        refine lv_topi (fun zy18 ezy18 => ?_)
        refine lv_iconst (v := 2) hx hb dX5_followOthers_23 (by decide) ?_
        refine lv_icmp_ne (tgt := 42) hx hb dX5_followOthers_24 (by decide) (fun cy19 => ?_) (fun cy19 => ?_)
        · have h_cy19 := cy19
          refine lv_aload_n hx hb dX5_followOthers_42 rfl (lv_at hl 3 rfl) ?_
          refine va_get (D := (dC, dI)) (ci := 0) (v := .ref h1_4) (C := RX0) (T := TX0) (N := 13) hx hb hts inX0_ hown hK hP 2 rfl rfl 4 (by decide) (hts (.fieldLink RX5 66 "GateWheel$Circuit" "kinds" "[I") (List.mem_of_getElem? (i := 3) rfl)) (fun _ h9 => h9) rfl dX5_followOthers_43 ?_
          refine lv_iload_n hx hb dX5_followOthers_46 rfl (lv_at hl 0 rfl) ?_
          refine va_iald hx hb hK hP 3 1 rfl rfl (IV_in by17 (by decide) (by decide)) dX5_followOthers_47 ?_
          rw [← ezy18]
          refine lv_iconst (v := 1) hx hb dX5_followOthers_48 (by decide) ?_
          refine lv_icmp_ne (tgt := 64) hx hb dX5_followOthers_49 (by decide) (fun cy20 => ?_) (fun cy20 => ?_)
          · have h_cy20 := cy20
            obtain ⟨zy21, ezy21⟩ : ∃ y : Int32, y = my7 + Int32.ofInt 1 := ⟨_, rfl⟩
            have by22 : IV 1 60 zy21 := IV_add (c := 1) (d := 1) ezy21 by15 (IV_mk (by decide) (by decide)) (by decide) (by decide) (by decide) (by decide)
            refine lv_iinc (v := zy21) (lv' := [(2, .int zy21), (3, .int zy16), (0, .ref h0), (1, .ref h1)]) hx hb dX5_followOthers_64 hl (k := 1) rfl ezy21.symm (by decide) rfl (fun ls hl => ?_)
            refine lv_goto (tgt := 2) hx hb dX5_followOthers_67 (by decide) ?_
            exact (eGy11 _ _ _ _ _).mp (ihGWy10 zy21 my8 fy9 _ _ _ (IV_u1 hmGWy10 (IV_step (c := 1) ezy21 by15 (by decide) (by decide) (by decide)) (by decide)) (IV_wk by22 (by decide) (by decide)) hP hD hS (lv_sub hl [0, 2, 3] rfl))
          · have h_cy20 := cy20
            have by23 : IV 1 1 zy18 := IV_eq_l cy20 (IV_top zy18) (IV_mk (a := 1) (b := 1) (by decide) (by decide)) (by decide) (by decide)
            refine lv_aload_n hx hb dX5_followOthers_52 rfl (lv_at hl 2 rfl) ?_
            refine va_get (D := (dC, dI)) (ci := 4) (v := .ref h0_3) (C := RX5) (T := TX5) (N := 5) hx hb hts inX5_ hown hK hP 0 rfl rfl 3 (by decide) (hts (.fieldLink RX5 9 "GateWheel$Worlds" "rows" "[J") (List.mem_of_getElem? (i := 4) rfl)) (fun _ h9 => h9) rfl dX5_followOthers_53 ?_
            refine lv_iload_n hx hb dX5_followOthers_56 rfl (lv_at hl 0 rfl) ?_
            refine lv_aload_n hx hb dX5_followOthers_57 rfl (lv_at hl 2 rfl) ?_
            refine lv_aload_n hx hb dX5_followOthers_58 rfl (lv_at hl 3 rfl) ?_
            refine lv_iload_n hx hb dX5_followOthers_59 rfl (lv_at hl 0 rfl) ?_
            have hPc := hP.sub (ws' := [(h0, .inr (4, [.int h0_0, .long h0_1, .long h0_2, .ref h0_3, .long my8])), (h0_3, .inl (yh0_3, 60, .inr (.inl fy9))), (h1, .inr (0, [.int h1_0, .int h1_1, .ref h1_2, .ref h1_3, .ref h1_4, .ref h1_5, .ref h1_6, .ref h1_7, .ref h1_8, .ref h1_9, .ref h1_10, .ref h1_11, .ref h1_12])), (h1_4, .inl (yh1_4, 60, .inl fh1_4)), (h1_7, .inl (yh1_7, 720, .inl fh1_7)), (h1_8, .inl (yh1_8, 60, .inl fh1_8)), (h1_9, .inl (yh1_9, 60, .inl fh1_9))]) [0, 1, 2, 3, 5, 6, 7] rfl
            have hDc := hD.sub (ws' := [(h0, .inr (4, [.int h0_0, .long h0_1, .long h0_2, .ref h0_3, .long my8])), (h0_3, .inl (yh0_3, 60, .inr (.inl fy9))), (h1, .inr (0, [.int h1_0, .int h1_1, .ref h1_2, .ref h1_3, .ref h1_4, .ref h1_5, .ref h1_6, .ref h1_7, .ref h1_8, .ref h1_9, .ref h1_10, .ref h1_11, .ref h1_12])), (h1_4, .inl (yh1_4, 60, .inl fh1_4)), (h1_7, .inl (yh1_7, 720, .inl fh1_7)), (h1_8, .inl (yh1_8, 60, .inl fh1_8)), (h1_9, .inl (yh1_9, 60, .inl fh1_9))]) [0, 1, 2, 3, 5, 6, 7] (by decide) rfl
            have hKc := hK.sub (tys' := [(yh0_3, .long), (yh1_4, .int), (yh1_7, .int), (yh1_8, .int), (yh1_9, .int)]) [0, 1, 3, 4, 5] rfl
            have hFc := va_free (wc := [(h0, .inr (4, [.int h0_0, .long h0_1, .long h0_2, .ref h0_3, .long my8])), (h0_3, .inl (yh0_3, 60, .inr (.inl fy9))), (h1, .inr (0, [.int h1_0, .int h1_1, .ref h1_2, .ref h1_3, .ref h1_4, .ref h1_5, .ref h1_6, .ref h1_7, .ref h1_8, .ref h1_9, .ref h1_10, .ref h1_11, .ref h1_12])), (h1_4, .inl (yh1_4, 60, .inl fh1_4)), (h1_7, .inl (yh1_7, 720, .inl fh1_7)), (h1_8, .inl (yh1_8, 60, .inl fh1_8)), (h1_9, .inl (yh1_9, 60, .inl fh1_9))]) hD hS hA [0, 1, 2, 3, 5, 6, 7] rfl
            refine va_calll (va_runV (As := [.ref h1, .int zy16]) (rest := [.int zy16, .ref h0_3]) ⟨hx, hb, hml, hown, hts⟩ (s_X5_busRow l dC dI h0 h0_3 h1 h1_4 h1_7 h1_8 h1_9 h0_0 h0_1 h0_2 my8 yh0_3 fy9 h1_0 h1_1 h1_2 h1_3 h1_5 h1_6 h1_10 h1_11 h1_12 yh1_4 fh1_4 yh1_7 fh1_7 yh1_8 fh1_8 yh1_9 fh1_9 zy16 zy18 HGWy10.size ezy18 by23 (IV_wk by14 (by decide) (by decide)) by17 hy_fh1_7 hy_fh1_8) (cwV 2 hts gX5_followOthers_X5_busRow rfl rfl rfl (by decide +kernel) ⟨Nat.le_of_ble_eq_true rfl, Nat.le_of_ble_eq_true rfl⟩) ⟨fun a U g mk q => by obtain ⟨q0, q1, qP, qK, qD⟩ := q; exact ⟨q0, q1, qP, va_K.moved (u := U) (U := U.calling g mk a) (Vm.Alike.refl U.vm) qK, qD⟩, va_recv hKc hPc (ci := 4) (q0 := 0) rfl rfl, fun U hU hW => ⟨rfl, by rw [hU], by rw [hU]; exact hPc, va_K.moved hW.alike hKc, hDc.weaken (fun _ _ _ _ => trivial)⟩⟩ rfl rfl hl.1 rfl (lv_room (Nat.le_of_ble_eq_true rfl)) dX5_followOthers_60 ⟨Nat.le_of_ble_eq_true rfl, Nat.le_of_ble_eq_true rfl⟩) hS (fun q _ h => hFc q h) hFc (fun ry25 u t Hy24 locs ht hvm hw hB hz1 hk1 hS => ?_)
            obtain ⟨my26, hP1, hK1, hD1⟩ := hB
            rw [ht] at hP1
            obtain ⟨hP, hD⟩ := va_join (wr := [(h1_5, .inl (yh1_5, 60, .inl fh1_5)), (h1_12, .inl (yh1_12, 60, .inl fh1_12))]) (w1 := [(h0, .inr (4, [.int h0_0, .long h0_1, .long h0_2, .ref h0_3, .long my26])), (h0_3, .inl (yh0_3, 60, .inr (.inl fy9))), (h1, .inr (0, [.int h1_0, .int h1_1, .ref h1_2, .ref h1_3, .ref h1_4, .ref h1_5, .ref h1_6, .ref h1_7, .ref h1_8, .ref h1_9, .ref h1_10, .ref h1_11, .ref h1_12])), (h1_4, .inl (yh1_4, 60, .inl fh1_4)), (h1_7, .inl (yh1_7, 720, .inl fh1_7)), (h1_8, .inl (yh1_8, 60, .inl fh1_8)), (h1_9, .inl (yh1_9, 60, .inl fh1_9))]) hP hD [0, 1, 2, 3, 5, 6, 7] [4, 8] rfl rfl (by decide) (by decide) hk1 hFc hP1 hD1
            have hP := hP.sub (ws' := [(h0, .inr (4, [.int h0_0, .long h0_1, .long h0_2, .ref h0_3, .long my26])), (h0_3, .inl (yh0_3, 60, .inr (.inl fy9))), (h1, .inr (0, [.int h1_0, .int h1_1, .ref h1_2, .ref h1_3, .ref h1_4, .ref h1_5, .ref h1_6, .ref h1_7, .ref h1_8, .ref h1_9, .ref h1_10, .ref h1_11, .ref h1_12])), (h1_4, .inl (yh1_4, 60, .inl fh1_4)), (h1_5, .inl (yh1_5, 60, .inl fh1_5)), (h1_7, .inl (yh1_7, 720, .inl fh1_7)), (h1_8, .inl (yh1_8, 60, .inl fh1_8)), (h1_9, .inl (yh1_9, 60, .inl fh1_9)), (h1_12, .inl (yh1_12, 60, .inl fh1_12))]) [2, 3, 4, 5, 0, 6, 7, 8, 1] rfl
            have hD := hD.sub (ws' := [(h0, .inr (4, [.int h0_0, .long h0_1, .long h0_2, .ref h0_3, .long my26])), (h0_3, .inl (yh0_3, 60, .inr (.inl fy9))), (h1, .inr (0, [.int h1_0, .int h1_1, .ref h1_2, .ref h1_3, .ref h1_4, .ref h1_5, .ref h1_6, .ref h1_7, .ref h1_8, .ref h1_9, .ref h1_10, .ref h1_11, .ref h1_12])), (h1_4, .inl (yh1_4, 60, .inl fh1_4)), (h1_5, .inl (yh1_5, 60, .inl fh1_5)), (h1_7, .inl (yh1_7, 720, .inl fh1_7)), (h1_8, .inl (yh1_8, 60, .inl fh1_8)), (h1_9, .inl (yh1_9, 60, .inl fh1_9)), (h1_12, .inl (yh1_12, 60, .inl fh1_12))]) [2, 3, 4, 5, 0, 6, 7, 8, 1] (by decide) rfl
            have hP : va_P (dC, dI) vwCl [(h0, .inr (4, [.int h0_0, .long h0_1, .long h0_2, .ref h0_3, .long my26])), (h0_3, .inl (yh0_3, 60, .inr (.inl fy9))), (h1, .inr (0, [.int h1_0, .int h1_1, .ref h1_2, .ref h1_3, .ref h1_4, .ref h1_5, .ref h1_6, .ref h1_7, .ref h1_8, .ref h1_9, .ref h1_10, .ref h1_11, .ref h1_12])), (h1_4, .inl (yh1_4, 60, .inl fh1_4)), (h1_5, .inl (yh1_5, 60, .inl fh1_5)), (h1_7, .inl (yh1_7, 720, .inl fh1_7)), (h1_8, .inl (yh1_8, 60, .inl fh1_8)), (h1_9, .inl (yh1_9, 60, .inl fh1_9)), (h1_12, .inl (yh1_12, 60, .inl fh1_12))] Hy24 := hP
            have hD : va_D A [(h0, .inr (4, [.int h0_0, .long h0_1, .long h0_2, .ref h0_3, .long my26])), (h0_3, .inl (yh0_3, 60, .inr (.inl fy9))), (h1, .inr (0, [.int h1_0, .int h1_1, .ref h1_2, .ref h1_3, .ref h1_4, .ref h1_5, .ref h1_6, .ref h1_7, .ref h1_8, .ref h1_9, .ref h1_10, .ref h1_11, .ref h1_12])), (h1_4, .inl (yh1_4, 60, .inl fh1_4)), (h1_5, .inl (yh1_5, 60, .inl fh1_5)), (h1_7, .inl (yh1_7, 720, .inl fh1_7)), (h1_8, .inl (yh1_8, 60, .inl fh1_8)), (h1_9, .inl (yh1_9, 60, .inl fh1_9)), (h1_12, .inl (yh1_12, 60, .inl fh1_12))] := hD
            refine va_last hx hb hK hP hD hS 1 0 rfl rfl (IV_in by17 (by decide) (by decide)) dX5_followOthers_63 (fun Hy27 locs hP hD hS => ?_)
            have hP : va_P (dC, dI) vwCl [(h0, .inr (4, [.int h0_0, .long h0_1, .long h0_2, .ref h0_3, .long my26])), (h0_3, .inl (yh0_3, 60, .inr (.inl (vp_updL fy9 (zy16 : Int32).toNatClampNeg ry25)))), (h1, .inr (0, [.int h1_0, .int h1_1, .ref h1_2, .ref h1_3, .ref h1_4, .ref h1_5, .ref h1_6, .ref h1_7, .ref h1_8, .ref h1_9, .ref h1_10, .ref h1_11, .ref h1_12])), (h1_4, .inl (yh1_4, 60, .inl fh1_4)), (h1_5, .inl (yh1_5, 60, .inl fh1_5)), (h1_7, .inl (yh1_7, 720, .inl fh1_7)), (h1_8, .inl (yh1_8, 60, .inl fh1_8)), (h1_9, .inl (yh1_9, 60, .inl fh1_9)), (h1_12, .inl (yh1_12, 60, .inl fh1_12))] Hy27 := hP
            have hD : va_D A [(h0, .inr (4, [.int h0_0, .long h0_1, .long h0_2, .ref h0_3, .long my26])), (h0_3, .inl (yh0_3, 60, .inr (.inl (vp_updL fy9 (zy16 : Int32).toNatClampNeg ry25)))), (h1, .inr (0, [.int h1_0, .int h1_1, .ref h1_2, .ref h1_3, .ref h1_4, .ref h1_5, .ref h1_6, .ref h1_7, .ref h1_8, .ref h1_9, .ref h1_10, .ref h1_11, .ref h1_12])), (h1_4, .inl (yh1_4, 60, .inl fh1_4)), (h1_5, .inl (yh1_5, 60, .inl fh1_5)), (h1_7, .inl (yh1_7, 720, .inl fh1_7)), (h1_8, .inl (yh1_8, 60, .inl fh1_8)), (h1_9, .inl (yh1_9, 60, .inl fh1_9)), (h1_12, .inl (yh1_12, 60, .inl fh1_12))] := hD
            generalize (vp_updL fy9 (zy16 : Int32).toNatClampNeg ry25) = fy28 at hP hD
            obtain ⟨zy29, ezy29⟩ : ∃ y : Int32, y = my7 + Int32.ofInt 1 := ⟨_, rfl⟩
            have by30 : IV 1 60 zy29 := IV_add (c := 1) (d := 1) ezy29 by15 (IV_mk (by decide) (by decide)) (by decide) (by decide) (by decide) (by decide)
            refine lv_iinc (v := zy29) (lv' := [(2, .int zy29), (3, .int zy16), (0, .ref h0), (1, .ref h1)]) hx hb dX5_followOthers_64 hl (k := 1) rfl ezy29.symm (by decide) rfl (fun ls hl => ?_)
            refine lv_goto (tgt := 2) hx hb dX5_followOthers_67 (by decide) ?_
            exact (eGy11 _ _ _ _ _).mp (ihGWy10 zy29 my26 fy28 _ _ _ (IV_u1 hmGWy10 (IV_step (c := 1) ezy29 by15 (by decide) (by decide) (by decide)) (by decide)) (IV_wk by30 (by decide) (by decide)) hP hD hS (lv_sub hl [0, 2, 3] rfl))
        · have h_cy19 := cy19
          have by31 : IV 2 2 zy18 := IV_eq_l cy19 (IV_top zy18) (IV_mk (a := 2) (b := 2) (by decide) (by decide)) (by decide) (by decide)
          refine lv_aload_n hx hb dX5_followOthers_27 rfl (lv_at hl 2 rfl) ?_
          refine va_get (D := (dC, dI)) (ci := 4) (v := .ref h0_3) (C := RX5) (T := TX5) (N := 5) hx hb hts inX5_ hown hK hP 0 rfl rfl 3 (by decide) (hts (.fieldLink RX5 9 "GateWheel$Worlds" "rows" "[J") (List.mem_of_getElem? (i := 4) rfl)) (fun _ h9 => h9) rfl dX5_followOthers_28 ?_
          refine lv_iload_n hx hb dX5_followOthers_31 rfl (lv_at hl 0 rfl) ?_
          refine lv_aload_n hx hb dX5_followOthers_32 rfl (lv_at hl 2 rfl) ?_
          refine lv_aload_n hx hb dX5_followOthers_33 rfl (lv_at hl 3 rfl) ?_
          refine lv_iload_n hx hb dX5_followOthers_34 rfl (lv_at hl 0 rfl) ?_
          have hPc := hP.sub (ws' := [(h0, .inr (4, [.int h0_0, .long h0_1, .long h0_2, .ref h0_3, .long my8])), (h0_3, .inl (yh0_3, 60, .inr (.inl fy9))), (h1, .inr (0, [.int h1_0, .int h1_1, .ref h1_2, .ref h1_3, .ref h1_4, .ref h1_5, .ref h1_6, .ref h1_7, .ref h1_8, .ref h1_9, .ref h1_10, .ref h1_11, .ref h1_12])), (h1_4, .inl (yh1_4, 60, .inl fh1_4)), (h1_5, .inl (yh1_5, 60, .inl fh1_5)), (h1_7, .inl (yh1_7, 720, .inl fh1_7)), (h1_8, .inl (yh1_8, 60, .inl fh1_8))]) [0, 1, 2, 3, 4, 5, 6] rfl
          have hDc := hD.sub (ws' := [(h0, .inr (4, [.int h0_0, .long h0_1, .long h0_2, .ref h0_3, .long my8])), (h0_3, .inl (yh0_3, 60, .inr (.inl fy9))), (h1, .inr (0, [.int h1_0, .int h1_1, .ref h1_2, .ref h1_3, .ref h1_4, .ref h1_5, .ref h1_6, .ref h1_7, .ref h1_8, .ref h1_9, .ref h1_10, .ref h1_11, .ref h1_12])), (h1_4, .inl (yh1_4, 60, .inl fh1_4)), (h1_5, .inl (yh1_5, 60, .inl fh1_5)), (h1_7, .inl (yh1_7, 720, .inl fh1_7)), (h1_8, .inl (yh1_8, 60, .inl fh1_8))]) [0, 1, 2, 3, 4, 5, 6] (by decide) rfl
          have hKc := hK.sub (tys' := [(yh0_3, .long), (yh1_4, .int), (yh1_5, .int), (yh1_7, .int), (yh1_8, .int)]) [0, 1, 2, 3, 4] rfl
          have hFc := va_free (wc := [(h0, .inr (4, [.int h0_0, .long h0_1, .long h0_2, .ref h0_3, .long my8])), (h0_3, .inl (yh0_3, 60, .inr (.inl fy9))), (h1, .inr (0, [.int h1_0, .int h1_1, .ref h1_2, .ref h1_3, .ref h1_4, .ref h1_5, .ref h1_6, .ref h1_7, .ref h1_8, .ref h1_9, .ref h1_10, .ref h1_11, .ref h1_12])), (h1_4, .inl (yh1_4, 60, .inl fh1_4)), (h1_5, .inl (yh1_5, 60, .inl fh1_5)), (h1_7, .inl (yh1_7, 720, .inl fh1_7)), (h1_8, .inl (yh1_8, 60, .inl fh1_8))]) hD hS hA [0, 1, 2, 3, 4, 5, 6] rfl
          refine va_calll (va_runV (As := [.ref h1, .int zy16]) (rest := [.int zy16, .ref h0_3]) ⟨hx, hb, hml, hown, hts⟩ (s_X5_gateRow l dC dI h0 h0_3 h1 h1_4 h1_5 h1_7 h1_8 h0_0 h0_1 h0_2 my8 yh0_3 fy9 h1_0 h1_1 h1_2 h1_3 h1_6 h1_9 h1_10 h1_11 h1_12 yh1_4 fh1_4 yh1_5 fh1_5 yh1_7 fh1_7 yh1_8 fh1_8 zy16 HGWy10.size (IV_wk by14 (by decide) (by decide)) by17 hy_fh1_7 hy_fh1_8) (cwV 2 hts gX5_followOthers_X5_gateRow rfl rfl rfl (by decide +kernel) ⟨Nat.le_of_ble_eq_true rfl, Nat.le_of_ble_eq_true rfl⟩) ⟨fun a U g mk q => by obtain ⟨q0, q1, qP, qK, qD⟩ := q; exact ⟨q0, q1, qP, va_K.moved (u := U) (U := U.calling g mk a) (Vm.Alike.refl U.vm) qK, qD⟩, va_recv hKc hPc (ci := 4) (q0 := 0) rfl rfl, fun U hU hW => ⟨rfl, by rw [hU], by rw [hU]; exact hPc, va_K.moved hW.alike hKc, hDc.weaken (fun _ _ _ _ => trivial)⟩⟩ rfl rfl hl.1 rfl (lv_room (Nat.le_of_ble_eq_true rfl)) dX5_followOthers_35 ⟨Nat.le_of_ble_eq_true rfl, Nat.le_of_ble_eq_true rfl⟩) hS (fun q _ h => hFc q h) hFc (fun ry33 u t Hy32 locs ht hvm hw hB hz1 hk1 hS => ?_)
          obtain ⟨hP1, hK1, hD1⟩ := hB
          rw [ht] at hP1
          obtain ⟨hP, hD⟩ := va_join (wr := [(h1_9, .inl (yh1_9, 60, .inl fh1_9)), (h1_12, .inl (yh1_12, 60, .inl fh1_12))]) (w1 := [(h0, .inr (4, [.int h0_0, .long h0_1, .long h0_2, .ref h0_3, .long my8])), (h0_3, .inl (yh0_3, 60, .inr (.inl fy9))), (h1, .inr (0, [.int h1_0, .int h1_1, .ref h1_2, .ref h1_3, .ref h1_4, .ref h1_5, .ref h1_6, .ref h1_7, .ref h1_8, .ref h1_9, .ref h1_10, .ref h1_11, .ref h1_12])), (h1_4, .inl (yh1_4, 60, .inl fh1_4)), (h1_5, .inl (yh1_5, 60, .inl fh1_5)), (h1_7, .inl (yh1_7, 720, .inl fh1_7)), (h1_8, .inl (yh1_8, 60, .inl fh1_8))]) hP hD [0, 1, 2, 3, 4, 5, 6] [7, 8] rfl rfl (by decide) (by decide) hk1 hFc hP1 hD1
          have hP := hP.sub (ws' := [(h0, .inr (4, [.int h0_0, .long h0_1, .long h0_2, .ref h0_3, .long my8])), (h0_3, .inl (yh0_3, 60, .inr (.inl fy9))), (h1, .inr (0, [.int h1_0, .int h1_1, .ref h1_2, .ref h1_3, .ref h1_4, .ref h1_5, .ref h1_6, .ref h1_7, .ref h1_8, .ref h1_9, .ref h1_10, .ref h1_11, .ref h1_12])), (h1_4, .inl (yh1_4, 60, .inl fh1_4)), (h1_5, .inl (yh1_5, 60, .inl fh1_5)), (h1_7, .inl (yh1_7, 720, .inl fh1_7)), (h1_8, .inl (yh1_8, 60, .inl fh1_8)), (h1_9, .inl (yh1_9, 60, .inl fh1_9)), (h1_12, .inl (yh1_12, 60, .inl fh1_12))]) [2, 3, 4, 5, 6, 7, 8, 0, 1] rfl
          have hD := hD.sub (ws' := [(h0, .inr (4, [.int h0_0, .long h0_1, .long h0_2, .ref h0_3, .long my8])), (h0_3, .inl (yh0_3, 60, .inr (.inl fy9))), (h1, .inr (0, [.int h1_0, .int h1_1, .ref h1_2, .ref h1_3, .ref h1_4, .ref h1_5, .ref h1_6, .ref h1_7, .ref h1_8, .ref h1_9, .ref h1_10, .ref h1_11, .ref h1_12])), (h1_4, .inl (yh1_4, 60, .inl fh1_4)), (h1_5, .inl (yh1_5, 60, .inl fh1_5)), (h1_7, .inl (yh1_7, 720, .inl fh1_7)), (h1_8, .inl (yh1_8, 60, .inl fh1_8)), (h1_9, .inl (yh1_9, 60, .inl fh1_9)), (h1_12, .inl (yh1_12, 60, .inl fh1_12))]) [2, 3, 4, 5, 6, 7, 8, 0, 1] (by decide) rfl
          have hP : va_P (dC, dI) vwCl [(h0, .inr (4, [.int h0_0, .long h0_1, .long h0_2, .ref h0_3, .long my8])), (h0_3, .inl (yh0_3, 60, .inr (.inl fy9))), (h1, .inr (0, [.int h1_0, .int h1_1, .ref h1_2, .ref h1_3, .ref h1_4, .ref h1_5, .ref h1_6, .ref h1_7, .ref h1_8, .ref h1_9, .ref h1_10, .ref h1_11, .ref h1_12])), (h1_4, .inl (yh1_4, 60, .inl fh1_4)), (h1_5, .inl (yh1_5, 60, .inl fh1_5)), (h1_7, .inl (yh1_7, 720, .inl fh1_7)), (h1_8, .inl (yh1_8, 60, .inl fh1_8)), (h1_9, .inl (yh1_9, 60, .inl fh1_9)), (h1_12, .inl (yh1_12, 60, .inl fh1_12))] Hy32 := hP
          have hD : va_D A [(h0, .inr (4, [.int h0_0, .long h0_1, .long h0_2, .ref h0_3, .long my8])), (h0_3, .inl (yh0_3, 60, .inr (.inl fy9))), (h1, .inr (0, [.int h1_0, .int h1_1, .ref h1_2, .ref h1_3, .ref h1_4, .ref h1_5, .ref h1_6, .ref h1_7, .ref h1_8, .ref h1_9, .ref h1_10, .ref h1_11, .ref h1_12])), (h1_4, .inl (yh1_4, 60, .inl fh1_4)), (h1_5, .inl (yh1_5, 60, .inl fh1_5)), (h1_7, .inl (yh1_7, 720, .inl fh1_7)), (h1_8, .inl (yh1_8, 60, .inl fh1_8)), (h1_9, .inl (yh1_9, 60, .inl fh1_9)), (h1_12, .inl (yh1_12, 60, .inl fh1_12))] := hD
          refine va_last hx hb hK hP hD hS 1 0 rfl rfl (IV_in by17 (by decide) (by decide)) dX5_followOthers_38 (fun Hy34 locs hP hD hS => ?_)
          have hP : va_P (dC, dI) vwCl [(h0, .inr (4, [.int h0_0, .long h0_1, .long h0_2, .ref h0_3, .long my8])), (h0_3, .inl (yh0_3, 60, .inr (.inl (vp_updL fy9 (zy16 : Int32).toNatClampNeg ry33)))), (h1, .inr (0, [.int h1_0, .int h1_1, .ref h1_2, .ref h1_3, .ref h1_4, .ref h1_5, .ref h1_6, .ref h1_7, .ref h1_8, .ref h1_9, .ref h1_10, .ref h1_11, .ref h1_12])), (h1_4, .inl (yh1_4, 60, .inl fh1_4)), (h1_5, .inl (yh1_5, 60, .inl fh1_5)), (h1_7, .inl (yh1_7, 720, .inl fh1_7)), (h1_8, .inl (yh1_8, 60, .inl fh1_8)), (h1_9, .inl (yh1_9, 60, .inl fh1_9)), (h1_12, .inl (yh1_12, 60, .inl fh1_12))] Hy34 := hP
          have hD : va_D A [(h0, .inr (4, [.int h0_0, .long h0_1, .long h0_2, .ref h0_3, .long my8])), (h0_3, .inl (yh0_3, 60, .inr (.inl (vp_updL fy9 (zy16 : Int32).toNatClampNeg ry33)))), (h1, .inr (0, [.int h1_0, .int h1_1, .ref h1_2, .ref h1_3, .ref h1_4, .ref h1_5, .ref h1_6, .ref h1_7, .ref h1_8, .ref h1_9, .ref h1_10, .ref h1_11, .ref h1_12])), (h1_4, .inl (yh1_4, 60, .inl fh1_4)), (h1_5, .inl (yh1_5, 60, .inl fh1_5)), (h1_7, .inl (yh1_7, 720, .inl fh1_7)), (h1_8, .inl (yh1_8, 60, .inl fh1_8)), (h1_9, .inl (yh1_9, 60, .inl fh1_9)), (h1_12, .inl (yh1_12, 60, .inl fh1_12))] := hD
          generalize (vp_updL fy9 (zy16 : Int32).toNatClampNeg ry33) = fy35 at hP hD
          refine lv_goto (tgt := 64) hx hb dX5_followOthers_39 (by decide) ?_
          obtain ⟨zy36, ezy36⟩ : ∃ y : Int32, y = my7 + Int32.ofInt 1 := ⟨_, rfl⟩
          have by37 : IV 1 60 zy36 := IV_add (c := 1) (d := 1) ezy36 by15 (IV_mk (by decide) (by decide)) (by decide) (by decide) (by decide) (by decide)
          refine lv_iinc (v := zy36) (lv' := [(2, .int zy36), (3, .int zy16), (0, .ref h0), (1, .ref h1)]) hx hb dX5_followOthers_64 hl (k := 1) rfl ezy36.symm (by decide) rfl (fun ls hl => ?_)
          refine lv_goto (tgt := 2) hx hb dX5_followOthers_67 (by decide) ?_
          exact (eGy11 _ _ _ _ _).mp (ihGWy10 zy36 my8 fy35 _ _ _ (IV_u1 hmGWy10 (IV_step (c := 1) ezy36 by15 (by decide) (by decide) (by decide)) (by decide)) (IV_wk by37 (by decide) (by decide)) hP hD hS (lv_sub hl [0, 2, 3] rfl))
  exact lpy12 61 0 h0_4 fh0_3 _ _ _ (IV_ui (IV_mk (a := 0) (b := 0) (by decide) (by decide)) (by decide)) (IV_mk (by decide) (by decide)) hP hD hS (lv_sub hl [0, 1, 2] rfl)

set_option maxHeartbeats 4000000 in
set_option maxRecDepth 100000 in
theorem s_X5_collect (l : Launch) (dC : Nat → ClassId) (dI : Nat → Nat → Nat) (h0 : Nat) (h0_3 : Nat) (h1 : Nat) (h0_0 : Int32) (h0_1 : Int64) (h0_2 : Int64) (h0_4 : Int64) (yh0_3 : ClassId) (fh0_3 : Nat → Int64) (h1_0 : Int32) (h1_1 : Int32) (h1_2 : Nat) (h1_3 : Nat) (h1_4 : Nat) (h1_5 : Nat) (h1_6 : Nat) (h1_7 : Nat) (h1_8 : Nat) (h1_9 : Nat) (h1_10 : Nat) (h1_11 : Nat) (h1_12 : Nat) (sz : Nat) (hy_h1_0 : IV 0 60 h1_0) : Met l yX5_collect wsX5_collect ({ frames := 1, cells := 0, slots := 0, locals := 21 }) (va_Pc [.ref h0, .ref h1] (fun U => U.heap.size = sz ∧ va_P (dC, dI) vwCl [(h0, .inr (4, [.int h0_0, .long h0_1, .long h0_2, .ref h0_3, .long h0_4])), (h0_3, .inl (yh0_3, 60, .inr (.inl fh0_3))), (h1, .inr (0, [.int h1_0, .int h1_1, .ref h1_2, .ref h1_3, .ref h1_4, .ref h1_5, .ref h1_6, .ref h1_7, .ref h1_8, .ref h1_9, .ref h1_10, .ref h1_11, .ref h1_12]))] U.heap ∧ va_K (dC, dI) vwCl [(yh0_3, .long)] U ∧ va_D (fun _ => True) [(h0, .inr (4, [.int h0_0, .long h0_1, .long h0_2, .ref h0_3, .long h0_4])), (h0_3, .inl (yh0_3, 60, .inr (.inl fh0_3))), (h1, .inr (0, [.int h1_0, .int h1_1, .ref h1_2, .ref h1_3, .ref h1_4, .ref h1_5, .ref h1_6, .ref h1_7, .ref h1_8, .ref h1_9, .ref h1_10, .ref h1_11, .ref h1_12]))])) (va_Qv (fun (_ : Unit) => True) (fun (_ : Unit) (t : State) => ∃ (my45 : Int32), ∃ (my46 : Int64), ∃ (my47 : Int64), va_P (dC, dI) vwCl [(h0, .inr (4, [.int my45, .long my46, .long my47, .ref h0_3, .long h0_4])), (h0_3, .inl (yh0_3, 60, .inr (.inl fh0_3))), (h1, .inr (0, [.int h1_0, .int h1_1, .ref h1_2, .ref h1_3, .ref h1_4, .ref h1_5, .ref h1_6, .ref h1_7, .ref h1_8, .ref h1_9, .ref h1_10, .ref h1_11, .ref h1_12]))] t.heap ∧ va_K (dC, dI) vwCl [(yh0_3, .long)] t ∧ va_D (va_A [(h0, .inr (4, [.int h0_0, .long h0_1, .long h0_2, .ref h0_3, .long h0_4])), (h0_3, .inl (yh0_3, 60, .inr (.inl fh0_3))), (h1, .inr (0, [.int h1_0, .int h1_1, .ref h1_2, .ref h1_3, .ref h1_4, .ref h1_5, .ref h1_6, .ref h1_7, .ref h1_8, .ref h1_9, .ref h1_10, .ref h1_11, .ref h1_12]))] sz) [(h0, .inr (4, [.int my45, .long my46, .long my47, .ref h0_3, .long h0_4])), (h0_3, .inl (yh0_3, 60, .inr (.inl fh0_3))), (h1, .inr (0, [.int h1_0, .int h1_1, .ref h1_2, .ref h1_3, .ref h1_4, .ref h1_5, .ref h1_6, .ref h1_7, .ref h1_8, .ref h1_9, .ref h1_10, .ref h1_11, .ref h1_12]))]) (va_A [(h0, .inr (4, [.int h0_0, .long h0_1, .long h0_2, .ref h0_3, .long h0_4])), (h0_3, .inl (yh0_3, 60, .inr (.inl fh0_3))), (h1, .inr (0, [.int h1_0, .int h1_1, .ref h1_2, .ref h1_3, .ref h1_4, .ref h1_5, .ref h1_6, .ref h1_7, .ref h1_8, .ref h1_9, .ref h1_10, .ref h1_11, .ref h1_12]))] sz)) 0 0 (va_A [(h0, .inr (4, [.int h0_0, .long h0_1, .long h0_2, .ref h0_3, .long h0_4])), (h0_3, .inl (yh0_3, 60, .inr (.inl fh0_3))), (h1, .inr (0, [.int h1_0, .int h1_1, .ref h1_2, .ref h1_3, .ref h1_4, .ref h1_5, .ref h1_6, .ref h1_7, .ref h1_8, .ref h1_9, .ref h1_10, .ref h1_11, .ref h1_12]))] sz) := by
  refine Met.ofW (cc := cX5_collect) (maxL := 3) (ret := none) (by decide +kernel) rfl ?_
  intro p e s m args below meth c s₁ B hml hv
  obtain ⟨rfl, hsz, hP, hK, hD0⟩ := hv
  have hx := B.exec
  have hb := B.bytes
  have hr := B.returns
  have hts := atoms_spec (ws := wsX5_collect) B.pre
  have hown : s.vm.findClass RX5 = some m.cls := findClass_of_methodNamed B.named
  have hlocks := B.notSynchronized
  have inX0_ : ∀ w ∈ wsX00, w ∈ wsX5_collect := fun _ h => List.mem_cons_of_mem _ (List.mem_append_right _ h)
  have inX5_ : ∀ w ∈ wsX50, w ∈ wsX5_collect := fun _ h => List.mem_cons_of_mem _ (List.mem_append_left _ (List.mem_append_right _ h))
  subst hsz
  have hD := hD0.self (sz := s.heap.size)
  generalize hAe : va_A [(h0, .inr (4, [.int h0_0, .long h0_1, .long h0_2, .ref h0_3, .long h0_4])), (h0_3, .inl (yh0_3, 60, .inr (.inl fh0_3))), (h1, .inr (0, [.int h1_0, .int h1_1, .ref h1_2, .ref h1_3, .ref h1_4, .ref h1_5, .ref h1_6, .ref h1_7, .ref h1_8, .ref h1_9, .ref h1_10, .ref h1_11, .ref h1_12]))] s.heap.size = A at hD ⊢
  have hA : ∀ q : Nat, s.heap.size ≤ q → A q := fun q h => by rw [← hAe]; exact Or.inr h
  have hS : va_S A s.heap s.heap [] := va_S.rf
  have hP : va_P (dC, dI) vwCl [(h0, .inr (4, [.int h0_0, .long h0_1, .long h0_2, .ref h0_3, .long h0_4])), (h0_3, .inl (yh0_3, 60, .inr (.inl fh0_3))), (h1, .inr (0, [.int h1_0, .int h1_1, .ref h1_2, .ref h1_3, .ref h1_4, .ref h1_5, .ref h1_6, .ref h1_7, .ref h1_8, .ref h1_9, .ref h1_10, .ref h1_11, .ref h1_12]))] s.heap := hP
  have hl := lv_entry ([.ref h0, .ref h1]) (n := 3) (Nat.le_of_ble_eq_true rfl)
  rw [lg_entry_eq]
  generalize (lg_sl ([.ref h0, .ref h1]) ++ List.replicate (3 - (lg_sl ([.ref h0, .ref h1])).length) Slot.unset).toArray = ls at hl ⊢
  have hl : lv_has ls 3 [(0, .ref h0), (1, .ref h1)] := hl
  refine lv_aload_n hx hb dX5_collect_0 rfl (lv_at hl 0 rfl) ?_
  refine lv_dup hx hb dX5_collect_1 rfl ?_
  refine va_get (D := (dC, dI)) (ci := 4) (v := .int h0_0) (C := RX5) (T := TX5) (N := 5) hx hb hts inX5_ hown hK hP 0 rfl rfl 0 (by decide) (hts (.fieldLink RX5 15 "GateWheel$Worlds" "legalCount" "I") (List.mem_of_getElem? (i := 1) rfl)) (fun _ h9 => h9) rfl dX5_collect_2 ?_
  refine lv_aload_n hx hb dX5_collect_5 rfl (lv_at hl 0 rfl) ?_
  refine va_get (D := (dC, dI)) (ci := 4) (v := .long h0_4) (C := RX5) (T := TX5) (N := 5) hx hb hts inX5_ hown hK hP 0 rfl rfl 4 (by decide) (hts (.fieldLink RX5 28 "GateWheel$Worlds" "legalHere" "J") (List.mem_of_getElem? (i := 2) rfl)) (fun _ h9 => h9) rfl dX5_collect_6 ?_
  have hPc := hP.sub (ws' := []) [] rfl
  have hDc := hD.sub (ws' := []) [] (by decide) rfl
  have hKc := hK.sub (tys' := []) [] rfl
  have hFc := va_free (wc := []) hD hS hA [] rfl
  refine va_calli (va_runS (As := [.long h0_4]) (rest := [.int h0_0, .ref h0]) ⟨hx, hb, hml, hown, hts⟩ (s_J13_bitCount_95d88 l dC dI h0_4 s.heap.size) (va_cwS 1 hts gX5_collect_J13_bitCount_95d88 rfl rfl rfl (by decide +kernel) ⟨Nat.le_of_ble_eq_true rfl, Nat.le_of_ble_eq_true rfl⟩) ⟨fun a U g mk q => by obtain ⟨q0, q1, qP, qK, qD⟩ := q; exact ⟨q0, q1, qP, va_K.moved (u := U) (U := U.calling g mk a) (Vm.Alike.refl U.vm) qK, qD⟩, fun U hU hW => ⟨rfl, by rw [hU], by rw [hU]; exact hPc, va_K.moved hW.alike hKc, hDc.weaken (fun _ _ _ _ => trivial)⟩⟩ rfl rfl hl.1 rfl (lv_room (Nat.le_of_ble_eq_true rfl)) dX5_collect_9 ⟨Nat.le_of_ble_eq_true rfl, Nat.le_of_ble_eq_true rfl⟩) hS (fun q _ h => hFc q h) hFc (fun ry2 u t Hy1 locs ht hvm hw hB hz1 hk1 hS => ?_)
  obtain ⟨hP1, hK1, hD1⟩ := hB
  rw [ht] at hP1
  obtain ⟨hP, hD⟩ := va_join (wr := [(h0, .inr (4, [.int h0_0, .long h0_1, .long h0_2, .ref h0_3, .long h0_4])), (h0_3, .inl (yh0_3, 60, .inr (.inl fh0_3))), (h1, .inr (0, [.int h1_0, .int h1_1, .ref h1_2, .ref h1_3, .ref h1_4, .ref h1_5, .ref h1_6, .ref h1_7, .ref h1_8, .ref h1_9, .ref h1_10, .ref h1_11, .ref h1_12]))]) (w1 := []) hP hD [] [0, 1, 2] rfl rfl (by decide) (by decide) hk1 hFc hP1 hD1
  have hP : va_P (dC, dI) vwCl [(h0, .inr (4, [.int h0_0, .long h0_1, .long h0_2, .ref h0_3, .long h0_4])), (h0_3, .inl (yh0_3, 60, .inr (.inl fh0_3))), (h1, .inr (0, [.int h1_0, .int h1_1, .ref h1_2, .ref h1_3, .ref h1_4, .ref h1_5, .ref h1_6, .ref h1_7, .ref h1_8, .ref h1_9, .ref h1_10, .ref h1_11, .ref h1_12]))] Hy1 := hP
  have hD : va_D A [(h0, .inr (4, [.int h0_0, .long h0_1, .long h0_2, .ref h0_3, .long h0_4])), (h0_3, .inl (yh0_3, 60, .inr (.inl fh0_3))), (h1, .inr (0, [.int h1_0, .int h1_1, .ref h1_2, .ref h1_3, .ref h1_4, .ref h1_5, .ref h1_6, .ref h1_7, .ref h1_8, .ref h1_9, .ref h1_10, .ref h1_11, .ref h1_12]))] := hD
  have by3 : IV 0 127 ry2 := hw
  refine lv_iadd hx hb dX5_collect_12 ?_
  refine lv_topi (fun zy4 ezy4 => ?_)
  refine va_put (D := (dC, dI)) (ci := 4) (v := .int zy4) (ty := .int) (C := RX5) (T := TX5) (N := 5) hx hb hts inX5_ tyX5 tyX5_ok nmX5 hown hK hP hD hS 0 rfl rfl 0 (by decide) (hts (.fieldLink RX5 15 "GateWheel$Worlds" "legalCount" "I") (List.mem_of_getElem? (i := 1) rfl)) (fun _ h9 => h9) rfl (by decide +kernel) rfl rfl (Nat.le_of_ble_eq_true rfl) dX5_collect_13 (fun Hy5 locs hP hD hS => ?_)
  have hP : va_P (dC, dI) vwCl [(h0, .inr (4, [.int zy4, .long h0_1, .long h0_2, .ref h0_3, .long h0_4])), (h0_3, .inl (yh0_3, 60, .inr (.inl fh0_3))), (h1, .inr (0, [.int h1_0, .int h1_1, .ref h1_2, .ref h1_3, .ref h1_4, .ref h1_5, .ref h1_6, .ref h1_7, .ref h1_8, .ref h1_9, .ref h1_10, .ref h1_11, .ref h1_12]))] Hy5 := hP
  have hD : va_D A [(h0, .inr (4, [.int zy4, .long h0_1, .long h0_2, .ref h0_3, .long h0_4])), (h0_3, .inl (yh0_3, 60, .inr (.inl fh0_3))), (h1, .inr (0, [.int h1_0, .int h1_1, .ref h1_2, .ref h1_3, .ref h1_4, .ref h1_5, .ref h1_6, .ref h1_7, .ref h1_8, .ref h1_9, .ref h1_10, .ref h1_11, .ref h1_12]))] := hD
  refine lv_iconst (v := 0) hx hb dX5_collect_16 (by decide) ?_
  refine lv_istore_n (lv' := [(2, .int 0), (0, .ref h0), (1, .ref h1)]) hx hb dX5_collect_17 rfl hl (by decide) rfl (fun ls hl => ?_)
  refine W_abs (fun GWy15 eGy16 => ?_)
  have lpy17 : ∀ (n : Nat) (my12 : Int32) (my13 : Int64) (my14 : Int64) (HGWy15 : Heap) (locs : List Loc) (ls : Array Slot), 61 - my12.toInt ≤ (n : Int) → IV 0 60 my12 → va_P (dC, dI) vwCl [(h0, .inr (4, [.int zy4, .long my13, .long my14, .ref h0_3, .long h0_4])), (h0_3, .inl (yh0_3, 60, .inr (.inl fh0_3))), (h1, .inr (0, [.int h1_0, .int h1_1, .ref h1_2, .ref h1_3, .ref h1_4, .ref h1_5, .ref h1_6, .ref h1_7, .ref h1_8, .ref h1_9, .ref h1_10, .ref h1_11, .ref h1_12]))] HGWy15 → va_D A [(h0, .inr (4, [.int zy4, .long my13, .long my14, .ref h0_3, .long h0_4])), (h0_3, .inl (yh0_3, 60, .inr (.inl fh0_3))), (h1, .inr (0, [.int h1_0, .int h1_1, .ref h1_2, .ref h1_3, .ref h1_4, .ref h1_5, .ref h1_6, .ref h1_7, .ref h1_8, .ref h1_9, .ref h1_10, .ref h1_11, .ref h1_12]))] → va_S A s.heap HGWy15 locs → lv_has ls 3 [(2, .int my12), (0, .ref h0), (1, .ref h1)] → GWy15 HGWy15 locs 0 0 (F0 m 18 ls []) := by
    intro n
    induction n with
    | zero =>
      intro my12 my13 my14 HGWy15 locs ls hmGWy15 hmy12 hP hD hS hl
      exact (IV_u0 hmy12 hmGWy15 (by decide)).elim
    | succ n ihGWy15 =>
      intro my12 my13 my14 HGWy15 locs ls hmGWy15 hmy12 hP hD hS hl
      refine (eGy16 _ _ _ _ _).mpr ?_
      refine lv_iload_n hx hb dX5_collect_18 rfl (lv_at hl 0 rfl) ?_
      refine lv_aload_n hx hb dX5_collect_19 rfl (lv_at hl 2 rfl) ?_
      refine va_get (D := (dC, dI)) (ci := 0) (v := .int h1_0) (C := RX0) (T := TX0) (N := 13) hx hb hts inX0_ hown hK hP 2 rfl rfl 0 (by decide) (hts (.fieldLink RX5 46 "GateWheel$Circuit" "count" "I") (List.mem_of_getElem? (i := 3) rfl)) (fun _ h9 => h9) rfl dX5_collect_20 ?_
      refine lv_icmp_ge (tgt := 92) hx hb dX5_collect_23 (by decide) (fun cy18 => ?_) (fun cy18 => ?_)
      · have h_cy18 := cy18
        exact W.vret hx hb hr (fun t ht hW => ⟨⟨(), rfl, trivial, zy4, my13, my14, by rw [ht]; exact hP, va_K.moved hW.alike hK, hD⟩, hS.F ht⟩) hS.2.2 dX5_collect_92
      · have h_cy18 := cy18
        have by19 : IV 1 60 h1_0 := IV_nle_l cy18 hy_h1_0 hmy12 (by decide) (by decide)
        have by20 : IV 0 59 my12 := IV_nle_r cy18 hy_h1_0 hmy12 (by decide) (by decide)
        refine lv_aload_n hx hb dX5_collect_26 rfl (lv_at hl 1 rfl) ?_
        refine va_get (D := (dC, dI)) (ci := 4) (v := .ref h0_3) (C := RX5) (T := TX5) (N := 5) hx hb hts inX5_ hown hK hP 0 rfl rfl 3 (by decide) (hts (.fieldLink RX5 9 "GateWheel$Worlds" "rows" "[J") (List.mem_of_getElem? (i := 4) rfl)) (fun _ h9 => h9) rfl dX5_collect_27 ?_
        refine lv_iload_n hx hb dX5_collect_30 rfl (lv_at hl 0 rfl) ?_
        refine va_lald hx hb hK hP 1 0 rfl rfl (IV_in by20 (by decide) (by decide)) dX5_collect_31 ?_
        refine lv_topl (fun zy21 ezy21 => ?_)
        refine lv_aload_n hx hb dX5_collect_32 rfl (lv_at hl 1 rfl) ?_
        refine va_get (D := (dC, dI)) (ci := 4) (v := .long h0_4) (C := RX5) (T := TX5) (N := 5) hx hb hts inX5_ hown hK hP 0 rfl rfl 4 (by decide) (hts (.fieldLink RX5 28 "GateWheel$Worlds" "legalHere" "J") (List.mem_of_getElem? (i := 2) rfl)) (fun _ h9 => h9) rfl dX5_collect_33 ?_
        refine lv_land hx hb dX5_collect_36 ?_
        refine lv_topl (fun zy22 ezy22 => ?_)
        refine lv_lconst (v := 0) hx hb dX5_collect_37 (by decide) ?_
        refine W.lcmp hx hb dX5_collect_38 ?_
        refine lv_topi (fun zy23 ezy23 => ?_)
        refine W_abs (fun GWy26 eGy27 => ?_)
        have jny28 : ∀ (my25 : Int64) (HGWy26 : Heap) (locs : List Loc) (ls : Array Slot), va_P (dC, dI) vwCl [(h0, .inr (4, [.int zy4, .long my13, .long my25, .ref h0_3, .long h0_4])), (h0_3, .inl (yh0_3, 60, .inr (.inl fh0_3))), (h1, .inr (0, [.int h1_0, .int h1_1, .ref h1_2, .ref h1_3, .ref h1_4, .ref h1_5, .ref h1_6, .ref h1_7, .ref h1_8, .ref h1_9, .ref h1_10, .ref h1_11, .ref h1_12]))] HGWy26 → va_D A [(h0, .inr (4, [.int zy4, .long my13, .long my25, .ref h0_3, .long h0_4])), (h0_3, .inl (yh0_3, 60, .inr (.inl fh0_3))), (h1, .inr (0, [.int h1_0, .int h1_1, .ref h1_2, .ref h1_3, .ref h1_4, .ref h1_5, .ref h1_6, .ref h1_7, .ref h1_8, .ref h1_9, .ref h1_10, .ref h1_11, .ref h1_12]))] → va_S A s.heap HGWy26 locs → lv_has ls 3 [(2, .int my12), (0, .ref h0), (1, .ref h1)] → GWy26 HGWy26 locs 0 0 (F0 m 54 ls []) := by
          intro my25 HGWy26 locs ls hP hD hS hl
          refine (eGy27 _ _ _ _ _).mpr ?_
          refine lv_aload_n hx hb dX5_collect_54 rfl (lv_at hl 1 rfl) ?_
          refine va_get (D := (dC, dI)) (ci := 4) (v := .ref h0_3) (C := RX5) (T := TX5) (N := 5) hx hb hts inX5_ hown hK hP 0 rfl rfl 3 (by decide) (hts (.fieldLink RX5 9 "GateWheel$Worlds" "rows" "[J") (List.mem_of_getElem? (i := 4) rfl)) (fun _ h9 => h9) rfl dX5_collect_55 ?_
          refine lv_iload_n hx hb dX5_collect_58 rfl (lv_at hl 0 rfl) ?_
          refine va_lald hx hb hK hP 1 0 rfl rfl (IV_in by20 (by decide) (by decide)) dX5_collect_59 ?_
          rw [← ezy21]
          refine lv_ldc2 hx hb hown (hts (.constantLong RX5 26 (-1)) (List.mem_of_getElem? (i := 6) rfl)) dX5_collect_60 ?_
          refine lv_lxor hx hb dX5_collect_63 ?_
          refine lv_topl (fun zy29 ezy29 => ?_)
          refine lv_aload_n hx hb dX5_collect_64 rfl (lv_at hl 1 rfl) ?_
          refine va_get (D := (dC, dI)) (ci := 4) (v := .long h0_4) (C := RX5) (T := TX5) (N := 5) hx hb hts inX5_ hown hK hP 0 rfl rfl 4 (by decide) (hts (.fieldLink RX5 28 "GateWheel$Worlds" "legalHere" "J") (List.mem_of_getElem? (i := 2) rfl)) (fun _ h9 => h9) rfl dX5_collect_65 ?_
          refine lv_land hx hb dX5_collect_68 ?_
          refine lv_topl (fun zy30 ezy30 => ?_)
          refine lv_lconst (v := 0) hx hb dX5_collect_69 (by decide) ?_
          refine W.lcmp hx hb dX5_collect_70 ?_
          refine lv_topi (fun zy31 ezy31 => ?_)
          refine lv_if_eq (tgt := 86) hx hb dX5_collect_71 (by decide) (fun cy32 => ?_) (fun cy32 => ?_)
          · have h_cy32 := cy32
            have by33 : IV 0 0 zy31 := IV_eq_l cy32 (IV_top zy31) (IV_mk (a := 0) (b := 0) (by decide) (by decide)) (by decide) (by decide)
            obtain ⟨zy34, ezy34⟩ : ∃ y : Int32, y = my12 + Int32.ofInt 1 := ⟨_, rfl⟩
            have by35 : IV 1 60 zy34 := IV_add (c := 1) (d := 1) ezy34 by20 (IV_mk (by decide) (by decide)) (by decide) (by decide) (by decide) (by decide)
            refine lv_iinc (v := zy34) (lv' := [(2, .int zy34), (0, .ref h0), (1, .ref h1)]) hx hb dX5_collect_86 hl (k := 0) rfl ezy34.symm (by decide) rfl (fun ls hl => ?_)
            refine lv_goto (tgt := 18) hx hb dX5_collect_89 (by decide) ?_
            exact (eGy16 _ _ _ _ _).mp (ihGWy15 zy34 my13 my25 _ _ _ (IV_u1 hmGWy15 (IV_step (c := 1) ezy34 by20 (by decide) (by decide) (by decide)) (by decide)) (IV_wk by35 (by decide) (by decide)) hP hD hS (lv_sub hl [0, 1, 2] rfl))
          · have h_cy32 := cy32
            refine lv_aload_n hx hb dX5_collect_74 rfl (lv_at hl 1 rfl) ?_
            refine lv_dup hx hb dX5_collect_75 rfl ?_
            refine va_get (D := (dC, dI)) (ci := 4) (v := .long my13) (C := RX5) (T := TX5) (N := 5) hx hb hts inX5_ hown hK hP 0 rfl rfl 1 (by decide) (hts (.fieldLink RX5 19 "GateWheel$Worlds" "zeros" "J") (List.mem_of_getElem? (i := 7) rfl)) (fun _ h9 => h9) rfl dX5_collect_76 ?_
            refine lv_lconst (v := 1) hx hb dX5_collect_79 (by decide) ?_
            refine lv_iload_n hx hb dX5_collect_80 rfl (lv_at hl 0 rfl) ?_
            refine lv_lshl hx hb dX5_collect_81 rfl ?_
            refine lv_topl (fun zy36 ezy36 => ?_)
            refine lv_lor hx hb dX5_collect_82 ?_
            refine lv_topl (fun zy37 ezy37 => ?_)
            refine va_put (D := (dC, dI)) (ci := 4) (v := .long zy37) (ty := .long) (C := RX5) (T := TX5) (N := 5) hx hb hts inX5_ tyX5 tyX5_ok nmX5 hown hK hP hD hS 0 rfl rfl 1 (by decide) (hts (.fieldLink RX5 19 "GateWheel$Worlds" "zeros" "J") (List.mem_of_getElem? (i := 7) rfl)) (fun _ h9 => h9) rfl (by decide +kernel) rfl rfl (Nat.le_of_ble_eq_true rfl) dX5_collect_83 (fun Hy38 locs hP hD hS => ?_)
            have hP : va_P (dC, dI) vwCl [(h0, .inr (4, [.int zy4, .long zy37, .long my25, .ref h0_3, .long h0_4])), (h0_3, .inl (yh0_3, 60, .inr (.inl fh0_3))), (h1, .inr (0, [.int h1_0, .int h1_1, .ref h1_2, .ref h1_3, .ref h1_4, .ref h1_5, .ref h1_6, .ref h1_7, .ref h1_8, .ref h1_9, .ref h1_10, .ref h1_11, .ref h1_12]))] Hy38 := hP
            have hD : va_D A [(h0, .inr (4, [.int zy4, .long zy37, .long my25, .ref h0_3, .long h0_4])), (h0_3, .inl (yh0_3, 60, .inr (.inl fh0_3))), (h1, .inr (0, [.int h1_0, .int h1_1, .ref h1_2, .ref h1_3, .ref h1_4, .ref h1_5, .ref h1_6, .ref h1_7, .ref h1_8, .ref h1_9, .ref h1_10, .ref h1_11, .ref h1_12]))] := hD
            obtain ⟨zy39, ezy39⟩ : ∃ y : Int32, y = my12 + Int32.ofInt 1 := ⟨_, rfl⟩
            have by40 : IV 1 60 zy39 := IV_add (c := 1) (d := 1) ezy39 by20 (IV_mk (by decide) (by decide)) (by decide) (by decide) (by decide) (by decide)
            refine lv_iinc (v := zy39) (lv' := [(2, .int zy39), (0, .ref h0), (1, .ref h1)]) hx hb dX5_collect_86 hl (k := 0) rfl ezy39.symm (by decide) rfl (fun ls hl => ?_)
            refine lv_goto (tgt := 18) hx hb dX5_collect_89 (by decide) ?_
            exact (eGy16 _ _ _ _ _).mp (ihGWy15 zy39 zy37 my25 _ _ _ (IV_u1 hmGWy15 (IV_step (c := 1) ezy39 by20 (by decide) (by decide) (by decide)) (by decide)) (IV_wk by40 (by decide) (by decide)) hP hD hS (lv_sub hl [0, 1, 2] rfl))
        refine (eGy27 _ _ _ _ _).mpr ?_
        refine lv_if_eq (tgt := 54) hx hb dX5_collect_39 (by decide) (fun cy24 => ?_) (fun cy24 => ?_)
        · have h_cy24 := cy24
          have by41 : IV 0 0 zy23 := IV_eq_l cy24 (IV_top zy23) (IV_mk (a := 0) (b := 0) (by decide) (by decide)) (by decide) (by decide)
          exact (eGy27 _ _ _ _ _).mp (jny28 my14 _ _ _ hP hD hS (lv_sub hl [0, 1, 2] rfl))
        · have h_cy24 := cy24
          refine lv_aload_n hx hb dX5_collect_42 rfl (lv_at hl 1 rfl) ?_
          refine lv_dup hx hb dX5_collect_43 rfl ?_
          refine va_get (D := (dC, dI)) (ci := 4) (v := .long my14) (C := RX5) (T := TX5) (N := 5) hx hb hts inX5_ hown hK hP 0 rfl rfl 2 (by decide) (hts (.fieldLink RX5 23 "GateWheel$Worlds" "ones" "J") (List.mem_of_getElem? (i := 5) rfl)) (fun _ h9 => h9) rfl dX5_collect_44 ?_
          refine lv_lconst (v := 1) hx hb dX5_collect_47 (by decide) ?_
          refine lv_iload_n hx hb dX5_collect_48 rfl (lv_at hl 0 rfl) ?_
          refine lv_lshl hx hb dX5_collect_49 rfl ?_
          refine lv_topl (fun zy42 ezy42 => ?_)
          refine lv_lor hx hb dX5_collect_50 ?_
          refine lv_topl (fun zy43 ezy43 => ?_)
          refine va_put (D := (dC, dI)) (ci := 4) (v := .long zy43) (ty := .long) (C := RX5) (T := TX5) (N := 5) hx hb hts inX5_ tyX5 tyX5_ok nmX5 hown hK hP hD hS 0 rfl rfl 2 (by decide) (hts (.fieldLink RX5 23 "GateWheel$Worlds" "ones" "J") (List.mem_of_getElem? (i := 5) rfl)) (fun _ h9 => h9) rfl (by decide +kernel) rfl rfl (Nat.le_of_ble_eq_true rfl) dX5_collect_51 (fun Hy44 locs hP hD hS => ?_)
          have hP : va_P (dC, dI) vwCl [(h0, .inr (4, [.int zy4, .long my13, .long zy43, .ref h0_3, .long h0_4])), (h0_3, .inl (yh0_3, 60, .inr (.inl fh0_3))), (h1, .inr (0, [.int h1_0, .int h1_1, .ref h1_2, .ref h1_3, .ref h1_4, .ref h1_5, .ref h1_6, .ref h1_7, .ref h1_8, .ref h1_9, .ref h1_10, .ref h1_11, .ref h1_12]))] Hy44 := hP
          have hD : va_D A [(h0, .inr (4, [.int zy4, .long my13, .long zy43, .ref h0_3, .long h0_4])), (h0_3, .inl (yh0_3, 60, .inr (.inl fh0_3))), (h1, .inr (0, [.int h1_0, .int h1_1, .ref h1_2, .ref h1_3, .ref h1_4, .ref h1_5, .ref h1_6, .ref h1_7, .ref h1_8, .ref h1_9, .ref h1_10, .ref h1_11, .ref h1_12]))] := hD
          exact (eGy27 _ _ _ _ _).mp (jny28 zy43 _ _ _ hP hD hS (lv_sub hl [0, 1, 2] rfl))
  exact lpy17 61 0 h0_1 h0_2 _ _ _ (IV_ui (IV_mk (a := 0) (b := 0) (by decide) (by decide)) (by decide)) (IV_mk (by decide) (by decide)) hP hD hS (lv_sub hl [0, 1, 2] rfl)

set_option maxHeartbeats 4000000 in
set_option maxRecDepth 100000 in
theorem s_X5_goThrough (l : Launch) (dC : Nat → ClassId) (dI : Nat → Nat → Nat) (h0 : Nat) (h0_3 : Nat) (h1 : Nat) (h1_4 : Nat) (h1_5 : Nat) (h1_7 : Nat) (h1_8 : Nat) (h1_9 : Nat) (h1_12 : Nat) (a2 : Nat) (h0_0 : Int32) (h0_1 : Int64) (h0_2 : Int64) (h0_4 : Int64) (yh0_3 : ClassId) (fh0_3 : Nat → Int64) (h1_0 : Int32) (h1_1 : Int32) (h1_2 : Nat) (h1_3 : Nat) (h1_6 : Nat) (h1_10 : Nat) (h1_11 : Nat) (yh1_4 : ClassId) (fh1_4 : Nat → Int32) (yh1_5 : ClassId) (fh1_5 : Nat → Int32) (yh1_7 : ClassId) (fh1_7 : Nat → Int32) (yh1_8 : ClassId) (fh1_8 : Nat → Int32) (yh1_9 : ClassId) (fh1_9 : Nat → Int32) (yh1_12 : ClassId) (fh1_12 : Nat → Int32) (ya2 : ClassId) (fa2 : Nat → Int32) (p3 : Int32) (tg : Nat × Nat × Nat × Nat) (sz : Nat) (hy_h1_0 : IV 0 60 h1_0) (hy_p3 : IV 0 12 p3) (hy_fh1_7 : AR 0 59 fh1_7) (hy_fh1_8 : AR 0 12 fh1_8) (hy_fh1_12 : AR 0 59 fh1_12) : Met l yX5_goThrough wsX5_goThrough ({ frames := 4, cells := 0, slots := 0, locals := 89 }) (va_Pc [.ref h0, .ref h1, .ref a2, .int p3] (fun U => U.heap.size = sz ∧ va_P (dC, dI) vwCl [(h0, .inr (4, [.int h0_0, .long h0_1, .long h0_2, .ref h0_3, .long h0_4])), (h0_3, .inl (yh0_3, 60, .inr (.inl fh0_3))), (h1, .inr (0, [.int h1_0, .int h1_1, .ref h1_2, .ref h1_3, .ref h1_4, .ref h1_5, .ref h1_6, .ref h1_7, .ref h1_8, .ref h1_9, .ref h1_10, .ref h1_11, .ref h1_12])), (h1_4, .inl (yh1_4, 60, .inl fh1_4)), (h1_5, .inl (yh1_5, 60, .inl fh1_5)), (h1_7, .inl (yh1_7, 720, .inl fh1_7)), (h1_8, .inl (yh1_8, 60, .inl fh1_8)), (h1_9, .inl (yh1_9, 60, .inl fh1_9)), (h1_12, .inl (yh1_12, 60, .inl fh1_12)), (a2, .inl (ya2, 60, .inl fa2))] U.heap ∧ va_K (dC, dI) vwCl [(yh0_3, .long), (yh1_4, .int), (yh1_5, .int), (yh1_7, .int), (yh1_8, .int), (yh1_9, .int), (yh1_12, .int), (ya2, .int)] U ∧ va_D (fun _ => True) [(h0, .inr (4, [.int h0_0, .long h0_1, .long h0_2, .ref h0_3, .long h0_4])), (h0_3, .inl (yh0_3, 60, .inr (.inl fh0_3))), (h1, .inr (0, [.int h1_0, .int h1_1, .ref h1_2, .ref h1_3, .ref h1_4, .ref h1_5, .ref h1_6, .ref h1_7, .ref h1_8, .ref h1_9, .ref h1_10, .ref h1_11, .ref h1_12])), (h1_4, .inl (yh1_4, 60, .inl fh1_4)), (h1_5, .inl (yh1_5, 60, .inl fh1_5)), (h1_7, .inl (yh1_7, 720, .inl fh1_7)), (h1_8, .inl (yh1_8, 60, .inl fh1_8)), (h1_9, .inl (yh1_9, 60, .inl fh1_9)), (h1_12, .inl (yh1_12, 60, .inl fh1_12)), (a2, .inl (ya2, 60, .inl fa2))] ∧ STG tg (va_A [(h0, .inr (4, [.int h0_0, .long h0_1, .long h0_2, .ref h0_3, .long h0_4])), (h0_3, .inl (yh0_3, 60, .inr (.inl fh0_3))), (h1, .inr (0, [.int h1_0, .int h1_1, .ref h1_2, .ref h1_3, .ref h1_4, .ref h1_5, .ref h1_6, .ref h1_7, .ref h1_8, .ref h1_9, .ref h1_10, .ref h1_11, .ref h1_12])), (h1_4, .inl (yh1_4, 60, .inl fh1_4)), (h1_5, .inl (yh1_5, 60, .inl fh1_5)), (h1_7, .inl (yh1_7, 720, .inl fh1_7)), (h1_8, .inl (yh1_8, 60, .inl fh1_8)), (h1_9, .inl (yh1_9, 60, .inl fh1_9)), (h1_12, .inl (yh1_12, 60, .inl fh1_12)), (a2, .inl (ya2, 60, .inl fa2))] sz) U U.heap)) (va_Qv (fun (_ : Unit) => True) (fun (_ : Unit) (t : State) => ∃ (my65 : Int32), ∃ (my66 : Int64), ∃ (my67 : Int64), ∃ (my68 : Int64), ∃ (fy69 : Nat → Int64), va_P (dC, dI) vwCl [(h0, .inr (4, [.int my65, .long my66, .long my67, .ref h0_3, .long my68])), (h0_3, .inl (yh0_3, 60, .inr (.inl fy69))), (h1, .inr (0, [.int h1_0, .int h1_1, .ref h1_2, .ref h1_3, .ref h1_4, .ref h1_5, .ref h1_6, .ref h1_7, .ref h1_8, .ref h1_9, .ref h1_10, .ref h1_11, .ref h1_12])), (h1_4, .inl (yh1_4, 60, .inl fh1_4)), (h1_5, .inl (yh1_5, 60, .inl fh1_5)), (h1_7, .inl (yh1_7, 720, .inl fh1_7)), (h1_8, .inl (yh1_8, 60, .inl fh1_8)), (h1_9, .inl (yh1_9, 60, .inl fh1_9)), (h1_12, .inl (yh1_12, 60, .inl fh1_12)), (a2, .inl (ya2, 60, .inl fa2))] t.heap ∧ va_K (dC, dI) vwCl [(yh0_3, .long), (yh1_4, .int), (yh1_5, .int), (yh1_7, .int), (yh1_8, .int), (yh1_9, .int), (yh1_12, .int), (ya2, .int)] t ∧ va_D (va_A [(h0, .inr (4, [.int h0_0, .long h0_1, .long h0_2, .ref h0_3, .long h0_4])), (h0_3, .inl (yh0_3, 60, .inr (.inl fh0_3))), (h1, .inr (0, [.int h1_0, .int h1_1, .ref h1_2, .ref h1_3, .ref h1_4, .ref h1_5, .ref h1_6, .ref h1_7, .ref h1_8, .ref h1_9, .ref h1_10, .ref h1_11, .ref h1_12])), (h1_4, .inl (yh1_4, 60, .inl fh1_4)), (h1_5, .inl (yh1_5, 60, .inl fh1_5)), (h1_7, .inl (yh1_7, 720, .inl fh1_7)), (h1_8, .inl (yh1_8, 60, .inl fh1_8)), (h1_9, .inl (yh1_9, 60, .inl fh1_9)), (h1_12, .inl (yh1_12, 60, .inl fh1_12)), (a2, .inl (ya2, 60, .inl fa2))] sz) [(h0, .inr (4, [.int my65, .long my66, .long my67, .ref h0_3, .long my68])), (h0_3, .inl (yh0_3, 60, .inr (.inl fy69))), (h1, .inr (0, [.int h1_0, .int h1_1, .ref h1_2, .ref h1_3, .ref h1_4, .ref h1_5, .ref h1_6, .ref h1_7, .ref h1_8, .ref h1_9, .ref h1_10, .ref h1_11, .ref h1_12])), (h1_4, .inl (yh1_4, 60, .inl fh1_4)), (h1_5, .inl (yh1_5, 60, .inl fh1_5)), (h1_7, .inl (yh1_7, 720, .inl fh1_7)), (h1_8, .inl (yh1_8, 60, .inl fh1_8)), (h1_9, .inl (yh1_9, 60, .inl fh1_9)), (h1_12, .inl (yh1_12, 60, .inl fh1_12)), (a2, .inl (ya2, 60, .inl fa2))]) (va_A [(h0, .inr (4, [.int h0_0, .long h0_1, .long h0_2, .ref h0_3, .long h0_4])), (h0_3, .inl (yh0_3, 60, .inr (.inl fh0_3))), (h1, .inr (0, [.int h1_0, .int h1_1, .ref h1_2, .ref h1_3, .ref h1_4, .ref h1_5, .ref h1_6, .ref h1_7, .ref h1_8, .ref h1_9, .ref h1_10, .ref h1_11, .ref h1_12])), (h1_4, .inl (yh1_4, 60, .inl fh1_4)), (h1_5, .inl (yh1_5, 60, .inl fh1_5)), (h1_7, .inl (yh1_7, 720, .inl fh1_7)), (h1_8, .inl (yh1_8, 60, .inl fh1_8)), (h1_9, .inl (yh1_9, 60, .inl fh1_9)), (h1_12, .inl (yh1_12, 60, .inl fh1_12)), (a2, .inl (ya2, 60, .inl fa2))] sz)) 0 0 (va_A [(h0, .inr (4, [.int h0_0, .long h0_1, .long h0_2, .ref h0_3, .long h0_4])), (h0_3, .inl (yh0_3, 60, .inr (.inl fh0_3))), (h1, .inr (0, [.int h1_0, .int h1_1, .ref h1_2, .ref h1_3, .ref h1_4, .ref h1_5, .ref h1_6, .ref h1_7, .ref h1_8, .ref h1_9, .ref h1_10, .ref h1_11, .ref h1_12])), (h1_4, .inl (yh1_4, 60, .inl fh1_4)), (h1_5, .inl (yh1_5, 60, .inl fh1_5)), (h1_7, .inl (yh1_7, 720, .inl fh1_7)), (h1_8, .inl (yh1_8, 60, .inl fh1_8)), (h1_9, .inl (yh1_9, 60, .inl fh1_9)), (h1_12, .inl (yh1_12, 60, .inl fh1_12)), (a2, .inl (ya2, 60, .inl fa2))] sz) := by
  refine Met.ofW (cc := cX5_goThrough) (maxL := 8) (ret := none) (by decide +kernel) rfl ?_
  intro p e s m args below meth c s₁ B hml hv
  obtain ⟨rfl, hsz, hP, hK, hD0, hST⟩ := hv
  have hx := B.exec
  have hb := B.bytes
  have hr := B.returns
  have hts := atoms_spec (ws := wsX5_goThrough) B.pre
  have hown : s.vm.findClass RX5 = some m.cls := findClass_of_methodNamed B.named
  have hlocks := B.notSynchronized
  have inX5_ : ∀ w ∈ wsX50, w ∈ wsX5_goThrough := fun _ h => List.mem_cons_of_mem _ (List.mem_append_left _ (List.mem_append_right _ h))
  subst hsz
  have hD := hD0.self (sz := s.heap.size)
  generalize hAe : va_A [(h0, .inr (4, [.int h0_0, .long h0_1, .long h0_2, .ref h0_3, .long h0_4])), (h0_3, .inl (yh0_3, 60, .inr (.inl fh0_3))), (h1, .inr (0, [.int h1_0, .int h1_1, .ref h1_2, .ref h1_3, .ref h1_4, .ref h1_5, .ref h1_6, .ref h1_7, .ref h1_8, .ref h1_9, .ref h1_10, .ref h1_11, .ref h1_12])), (h1_4, .inl (yh1_4, 60, .inl fh1_4)), (h1_5, .inl (yh1_5, 60, .inl fh1_5)), (h1_7, .inl (yh1_7, 720, .inl fh1_7)), (h1_8, .inl (yh1_8, 60, .inl fh1_8)), (h1_9, .inl (yh1_9, 60, .inl fh1_9)), (h1_12, .inl (yh1_12, 60, .inl fh1_12)), (a2, .inl (ya2, 60, .inl fa2))] s.heap.size = A at hD hST ⊢
  have hA : ∀ q : Nat, s.heap.size ≤ q → A q := fun q h => by rw [← hAe]; exact Or.inr h
  have hS : va_S A s.heap s.heap [] := va_S.rf
  have hP : va_P (dC, dI) vwCl [(h0, .inr (4, [.int h0_0, .long h0_1, .long h0_2, .ref h0_3, .long h0_4])), (h0_3, .inl (yh0_3, 60, .inr (.inl fh0_3))), (h1, .inr (0, [.int h1_0, .int h1_1, .ref h1_2, .ref h1_3, .ref h1_4, .ref h1_5, .ref h1_6, .ref h1_7, .ref h1_8, .ref h1_9, .ref h1_10, .ref h1_11, .ref h1_12])), (h1_4, .inl (yh1_4, 60, .inl fh1_4)), (h1_5, .inl (yh1_5, 60, .inl fh1_5)), (h1_7, .inl (yh1_7, 720, .inl fh1_7)), (h1_8, .inl (yh1_8, 60, .inl fh1_8)), (h1_9, .inl (yh1_9, 60, .inl fh1_9)), (h1_12, .inl (yh1_12, 60, .inl fh1_12)), (a2, .inl (ya2, 60, .inl fa2))] s.heap := hP
  have hl := lv_entry ([.ref h0, .ref h1, .ref a2, .int p3]) (n := 8) (Nat.le_of_ble_eq_true rfl)
  rw [lg_entry_eq]
  generalize (lg_sl ([.ref h0, .ref h1, .ref a2, .int p3]) ++ List.replicate (8 - (lg_sl ([.ref h0, .ref h1, .ref a2, .int p3])).length) Slot.unset).toArray = ls at hl ⊢
  have hl : lv_has ls 8 [(0, .ref h0), (1, .ref h1), (2, .ref a2), (3, .int p3)] := hl
  refine lv_aload_n hx hb dX5_goThrough_0 rfl (lv_at hl 0 rfl) ?_
  refine lv_iconst (v := 0) hx hb dX5_goThrough_1 (by decide) ?_
  refine va_put (D := (dC, dI)) (ci := 4) (v := .int 0) (ty := .int) (C := RX5) (T := TX5) (N := 5) hx hb hts inX5_ tyX5 tyX5_ok nmX5 hown hK hP hD hS 0 rfl rfl 0 (by decide) (hts (.fieldLink RX5 15 "GateWheel$Worlds" "legalCount" "I") (List.mem_of_getElem? (i := 1) rfl)) (fun _ h9 => h9) rfl (by decide +kernel) rfl rfl (Nat.le_of_ble_eq_true rfl) dX5_goThrough_2 (fun Hy1 locs hP hD hS => ?_)
  have hP : va_P (dC, dI) vwCl [(h0, .inr (4, [.int 0, .long h0_1, .long h0_2, .ref h0_3, .long h0_4])), (h0_3, .inl (yh0_3, 60, .inr (.inl fh0_3))), (h1, .inr (0, [.int h1_0, .int h1_1, .ref h1_2, .ref h1_3, .ref h1_4, .ref h1_5, .ref h1_6, .ref h1_7, .ref h1_8, .ref h1_9, .ref h1_10, .ref h1_11, .ref h1_12])), (h1_4, .inl (yh1_4, 60, .inl fh1_4)), (h1_5, .inl (yh1_5, 60, .inl fh1_5)), (h1_7, .inl (yh1_7, 720, .inl fh1_7)), (h1_8, .inl (yh1_8, 60, .inl fh1_8)), (h1_9, .inl (yh1_9, 60, .inl fh1_9)), (h1_12, .inl (yh1_12, 60, .inl fh1_12)), (a2, .inl (ya2, 60, .inl fa2))] Hy1 := hP
  have hD : va_D A [(h0, .inr (4, [.int 0, .long h0_1, .long h0_2, .ref h0_3, .long h0_4])), (h0_3, .inl (yh0_3, 60, .inr (.inl fh0_3))), (h1, .inr (0, [.int h1_0, .int h1_1, .ref h1_2, .ref h1_3, .ref h1_4, .ref h1_5, .ref h1_6, .ref h1_7, .ref h1_8, .ref h1_9, .ref h1_10, .ref h1_11, .ref h1_12])), (h1_4, .inl (yh1_4, 60, .inl fh1_4)), (h1_5, .inl (yh1_5, 60, .inl fh1_5)), (h1_7, .inl (yh1_7, 720, .inl fh1_7)), (h1_8, .inl (yh1_8, 60, .inl fh1_8)), (h1_9, .inl (yh1_9, 60, .inl fh1_9)), (h1_12, .inl (yh1_12, 60, .inl fh1_12)), (a2, .inl (ya2, 60, .inl fa2))] := hD
  refine lv_aload_n hx hb dX5_goThrough_5 rfl (lv_at hl 0 rfl) ?_
  refine lv_lconst (v := 0) hx hb dX5_goThrough_6 (by decide) ?_
  refine va_put (D := (dC, dI)) (ci := 4) (v := .long 0) (ty := .long) (C := RX5) (T := TX5) (N := 5) hx hb hts inX5_ tyX5 tyX5_ok nmX5 hown hK hP hD hS 0 rfl rfl 1 (by decide) (hts (.fieldLink RX5 19 "GateWheel$Worlds" "zeros" "J") (List.mem_of_getElem? (i := 2) rfl)) (fun _ h9 => h9) rfl (by decide +kernel) rfl rfl (Nat.le_of_ble_eq_true rfl) dX5_goThrough_7 (fun Hy2 locs hP hD hS => ?_)
  have hP : va_P (dC, dI) vwCl [(h0, .inr (4, [.int 0, .long 0, .long h0_2, .ref h0_3, .long h0_4])), (h0_3, .inl (yh0_3, 60, .inr (.inl fh0_3))), (h1, .inr (0, [.int h1_0, .int h1_1, .ref h1_2, .ref h1_3, .ref h1_4, .ref h1_5, .ref h1_6, .ref h1_7, .ref h1_8, .ref h1_9, .ref h1_10, .ref h1_11, .ref h1_12])), (h1_4, .inl (yh1_4, 60, .inl fh1_4)), (h1_5, .inl (yh1_5, 60, .inl fh1_5)), (h1_7, .inl (yh1_7, 720, .inl fh1_7)), (h1_8, .inl (yh1_8, 60, .inl fh1_8)), (h1_9, .inl (yh1_9, 60, .inl fh1_9)), (h1_12, .inl (yh1_12, 60, .inl fh1_12)), (a2, .inl (ya2, 60, .inl fa2))] Hy2 := hP
  have hD : va_D A [(h0, .inr (4, [.int 0, .long 0, .long h0_2, .ref h0_3, .long h0_4])), (h0_3, .inl (yh0_3, 60, .inr (.inl fh0_3))), (h1, .inr (0, [.int h1_0, .int h1_1, .ref h1_2, .ref h1_3, .ref h1_4, .ref h1_5, .ref h1_6, .ref h1_7, .ref h1_8, .ref h1_9, .ref h1_10, .ref h1_11, .ref h1_12])), (h1_4, .inl (yh1_4, 60, .inl fh1_4)), (h1_5, .inl (yh1_5, 60, .inl fh1_5)), (h1_7, .inl (yh1_7, 720, .inl fh1_7)), (h1_8, .inl (yh1_8, 60, .inl fh1_8)), (h1_9, .inl (yh1_9, 60, .inl fh1_9)), (h1_12, .inl (yh1_12, 60, .inl fh1_12)), (a2, .inl (ya2, 60, .inl fa2))] := hD
  refine lv_aload_n hx hb dX5_goThrough_10 rfl (lv_at hl 0 rfl) ?_
  refine lv_lconst (v := 0) hx hb dX5_goThrough_11 (by decide) ?_
  refine va_put (D := (dC, dI)) (ci := 4) (v := .long 0) (ty := .long) (C := RX5) (T := TX5) (N := 5) hx hb hts inX5_ tyX5 tyX5_ok nmX5 hown hK hP hD hS 0 rfl rfl 2 (by decide) (hts (.fieldLink RX5 23 "GateWheel$Worlds" "ones" "J") (List.mem_of_getElem? (i := 3) rfl)) (fun _ h9 => h9) rfl (by decide +kernel) rfl rfl (Nat.le_of_ble_eq_true rfl) dX5_goThrough_12 (fun Hy3 locs hP hD hS => ?_)
  have hP : va_P (dC, dI) vwCl [(h0, .inr (4, [.int 0, .long 0, .long 0, .ref h0_3, .long h0_4])), (h0_3, .inl (yh0_3, 60, .inr (.inl fh0_3))), (h1, .inr (0, [.int h1_0, .int h1_1, .ref h1_2, .ref h1_3, .ref h1_4, .ref h1_5, .ref h1_6, .ref h1_7, .ref h1_8, .ref h1_9, .ref h1_10, .ref h1_11, .ref h1_12])), (h1_4, .inl (yh1_4, 60, .inl fh1_4)), (h1_5, .inl (yh1_5, 60, .inl fh1_5)), (h1_7, .inl (yh1_7, 720, .inl fh1_7)), (h1_8, .inl (yh1_8, 60, .inl fh1_8)), (h1_9, .inl (yh1_9, 60, .inl fh1_9)), (h1_12, .inl (yh1_12, 60, .inl fh1_12)), (a2, .inl (ya2, 60, .inl fa2))] Hy3 := hP
  have hD : va_D A [(h0, .inr (4, [.int 0, .long 0, .long 0, .ref h0_3, .long h0_4])), (h0_3, .inl (yh0_3, 60, .inr (.inl fh0_3))), (h1, .inr (0, [.int h1_0, .int h1_1, .ref h1_2, .ref h1_3, .ref h1_4, .ref h1_5, .ref h1_6, .ref h1_7, .ref h1_8, .ref h1_9, .ref h1_10, .ref h1_11, .ref h1_12])), (h1_4, .inl (yh1_4, 60, .inl fh1_4)), (h1_5, .inl (yh1_5, 60, .inl fh1_5)), (h1_7, .inl (yh1_7, 720, .inl fh1_7)), (h1_8, .inl (yh1_8, 60, .inl fh1_8)), (h1_9, .inl (yh1_9, 60, .inl fh1_9)), (h1_12, .inl (yh1_12, 60, .inl fh1_12)), (a2, .inl (ya2, 60, .inl fa2))] := hD
  refine lv_iload_n hx hb dX5_goThrough_15 rfl (lv_at hl 3 rfl) ?_
  refine lv_bipush (v := 6) hx hb dX5_goThrough_16 (by decide) ?_
  refine W_abs (fun GWy6 eGy7 => ?_)
  have jny8 : ∀ (my5 : Int32) (HGWy6 : Heap) (locs : List Loc) (ls : Array Slot), IV 1 64 my5 → va_P (dC, dI) vwCl [(h0, .inr (4, [.int 0, .long 0, .long 0, .ref h0_3, .long h0_4])), (h0_3, .inl (yh0_3, 60, .inr (.inl fh0_3))), (h1, .inr (0, [.int h1_0, .int h1_1, .ref h1_2, .ref h1_3, .ref h1_4, .ref h1_5, .ref h1_6, .ref h1_7, .ref h1_8, .ref h1_9, .ref h1_10, .ref h1_11, .ref h1_12])), (h1_4, .inl (yh1_4, 60, .inl fh1_4)), (h1_5, .inl (yh1_5, 60, .inl fh1_5)), (h1_7, .inl (yh1_7, 720, .inl fh1_7)), (h1_8, .inl (yh1_8, 60, .inl fh1_8)), (h1_9, .inl (yh1_9, 60, .inl fh1_9)), (h1_12, .inl (yh1_12, 60, .inl fh1_12)), (a2, .inl (ya2, 60, .inl fa2))] HGWy6 → va_D A [(h0, .inr (4, [.int 0, .long 0, .long 0, .ref h0_3, .long h0_4])), (h0_3, .inl (yh0_3, 60, .inr (.inl fh0_3))), (h1, .inr (0, [.int h1_0, .int h1_1, .ref h1_2, .ref h1_3, .ref h1_4, .ref h1_5, .ref h1_6, .ref h1_7, .ref h1_8, .ref h1_9, .ref h1_10, .ref h1_11, .ref h1_12])), (h1_4, .inl (yh1_4, 60, .inl fh1_4)), (h1_5, .inl (yh1_5, 60, .inl fh1_5)), (h1_7, .inl (yh1_7, 720, .inl fh1_7)), (h1_8, .inl (yh1_8, 60, .inl fh1_8)), (h1_9, .inl (yh1_9, 60, .inl fh1_9)), (h1_12, .inl (yh1_12, 60, .inl fh1_12)), (a2, .inl (ya2, 60, .inl fa2))] → va_S A s.heap HGWy6 locs → lv_has ls 8 [(0, .ref h0), (1, .ref h1), (2, .ref a2), (3, .int p3)] → GWy6 HGWy6 locs 0 0 (F0 m 31 ls [.int my5]) := by
    intro my5 HGWy6 locs ls hmy5 hP hD hS hl
    refine (eGy7 _ _ _ _ _).mpr ?_
    refine lv_istore (lv' := [(4, .int my5), (0, .ref h0), (1, .ref h1), (2, .ref a2), (3, .int p3)]) hx hb dX5_goThrough_31 hl (by decide) rfl (fun ls hl => ?_)
    refine lv_iload_n hx hb dX5_goThrough_33 rfl (lv_at hl 4 rfl) ?_
    refine lv_bipush (v := 6) hx hb dX5_goThrough_34 (by decide) ?_
    refine W_abs (fun GWy11 eGy12 => ?_)
    have jny13 : ∀ (my10 : Int64) (HGWy11 : Heap) (locs : List Loc) (ls : Array Slot), va_P (dC, dI) vwCl [(h0, .inr (4, [.int 0, .long 0, .long 0, .ref h0_3, .long h0_4])), (h0_3, .inl (yh0_3, 60, .inr (.inl fh0_3))), (h1, .inr (0, [.int h1_0, .int h1_1, .ref h1_2, .ref h1_3, .ref h1_4, .ref h1_5, .ref h1_6, .ref h1_7, .ref h1_8, .ref h1_9, .ref h1_10, .ref h1_11, .ref h1_12])), (h1_4, .inl (yh1_4, 60, .inl fh1_4)), (h1_5, .inl (yh1_5, 60, .inl fh1_5)), (h1_7, .inl (yh1_7, 720, .inl fh1_7)), (h1_8, .inl (yh1_8, 60, .inl fh1_8)), (h1_9, .inl (yh1_9, 60, .inl fh1_9)), (h1_12, .inl (yh1_12, 60, .inl fh1_12)), (a2, .inl (ya2, 60, .inl fa2))] HGWy11 → va_D A [(h0, .inr (4, [.int 0, .long 0, .long 0, .ref h0_3, .long h0_4])), (h0_3, .inl (yh0_3, 60, .inr (.inl fh0_3))), (h1, .inr (0, [.int h1_0, .int h1_1, .ref h1_2, .ref h1_3, .ref h1_4, .ref h1_5, .ref h1_6, .ref h1_7, .ref h1_8, .ref h1_9, .ref h1_10, .ref h1_11, .ref h1_12])), (h1_4, .inl (yh1_4, 60, .inl fh1_4)), (h1_5, .inl (yh1_5, 60, .inl fh1_5)), (h1_7, .inl (yh1_7, 720, .inl fh1_7)), (h1_8, .inl (yh1_8, 60, .inl fh1_8)), (h1_9, .inl (yh1_9, 60, .inl fh1_9)), (h1_12, .inl (yh1_12, 60, .inl fh1_12)), (a2, .inl (ya2, 60, .inl fa2))] → va_S A s.heap HGWy11 locs → lv_has ls 8 [(4, .int my5), (0, .ref h0), (1, .ref h1), (2, .ref a2), (3, .int p3)] → GWy11 HGWy11 locs 0 0 (F0 m 52 ls [.long my10]) := by
      intro my10 HGWy11 locs ls hP hD hS hl
      refine (eGy12 _ _ _ _ _).mpr ?_
      refine lv_lstore (lv' := [(5, .long my10), (4, .int my5), (0, .ref h0), (1, .ref h1), (2, .ref a2), (3, .int p3)]) hx hb dX5_goThrough_52 hl (by decide) rfl (fun ls hl => ?_)
      refine lv_iconst (v := 0) hx hb dX5_goThrough_54 (by decide) ?_
      refine lv_istore (lv' := [(7, .int 0), (5, .long my10), (4, .int my5), (0, .ref h0), (1, .ref h1), (2, .ref a2), (3, .int p3)]) hx hb dX5_goThrough_55 hl (by decide) rfl (fun ls hl => ?_)
      refine W_abs (fun GWy32 eGy33 => ?_)
      have lpy34 : ∀ (n : Nat) (my26 : Int32) (my27 : Int32) (my28 : Int64) (my29 : Int64) (my30 : Int64) (fy31 : Nat → Int64) (HGWy32 : Heap) (locs : List Loc) (ls : Array Slot), 65 - my26.toInt ≤ (n : Int) → IV 0 64 my26 → va_P (dC, dI) vwCl [(h0, .inr (4, [.int my27, .long my28, .long my29, .ref h0_3, .long my30])), (h0_3, .inl (yh0_3, 60, .inr (.inl fy31))), (h1, .inr (0, [.int h1_0, .int h1_1, .ref h1_2, .ref h1_3, .ref h1_4, .ref h1_5, .ref h1_6, .ref h1_7, .ref h1_8, .ref h1_9, .ref h1_10, .ref h1_11, .ref h1_12])), (h1_4, .inl (yh1_4, 60, .inl fh1_4)), (h1_5, .inl (yh1_5, 60, .inl fh1_5)), (h1_7, .inl (yh1_7, 720, .inl fh1_7)), (h1_8, .inl (yh1_8, 60, .inl fh1_8)), (h1_9, .inl (yh1_9, 60, .inl fh1_9)), (h1_12, .inl (yh1_12, 60, .inl fh1_12)), (a2, .inl (ya2, 60, .inl fa2))] HGWy32 → va_D A [(h0, .inr (4, [.int my27, .long my28, .long my29, .ref h0_3, .long my30])), (h0_3, .inl (yh0_3, 60, .inr (.inl fy31))), (h1, .inr (0, [.int h1_0, .int h1_1, .ref h1_2, .ref h1_3, .ref h1_4, .ref h1_5, .ref h1_6, .ref h1_7, .ref h1_8, .ref h1_9, .ref h1_10, .ref h1_11, .ref h1_12])), (h1_4, .inl (yh1_4, 60, .inl fh1_4)), (h1_5, .inl (yh1_5, 60, .inl fh1_5)), (h1_7, .inl (yh1_7, 720, .inl fh1_7)), (h1_8, .inl (yh1_8, 60, .inl fh1_8)), (h1_9, .inl (yh1_9, 60, .inl fh1_9)), (h1_12, .inl (yh1_12, 60, .inl fh1_12)), (a2, .inl (ya2, 60, .inl fa2))] → va_S A s.heap HGWy32 locs → lv_has ls 8 [(7, .int my26), (5, .long my10), (4, .int my5), (0, .ref h0), (1, .ref h1), (2, .ref a2), (3, .int p3)] → GWy32 HGWy32 locs 0 0 (F0 m 57 ls []) := by
        intro n
        induction n with
        | zero =>
          intro my26 my27 my28 my29 my30 fy31 HGWy32 locs ls hmGWy32 hmy26 hP hD hS hl
          exact (IV_u0 hmy26 hmGWy32 (by decide)).elim
        | succ n ihGWy32 =>
          intro my26 my27 my28 my29 my30 fy31 HGWy32 locs ls hmGWy32 hmy26 hP hD hS hl
          refine (eGy33 _ _ _ _ _).mpr ?_
          refine lv_iload hx hb dX5_goThrough_57 (lv_at hl 0 rfl) ?_
          refine lv_iload hx hb dX5_goThrough_59 (lv_at hl 2 rfl) ?_
          refine lv_icmp_ge (tgt := 94) hx hb dX5_goThrough_61 (by decide) (fun cy35 => ?_) (fun cy35 => ?_)
          · have h_cy35 := cy35
            have by36 : IV 1 64 my26 := IV_le_r cy35 hmy5 hmy26 (by decide) (by decide)
            exact W.vret hx hb hr (fun t ht hW => ⟨⟨(), rfl, trivial, my27, my28, my29, my30, fy31, by rw [ht]; exact hP, va_K.moved hW.alike hK, hD⟩, hS.F ht⟩) hS.2.2 dX5_goThrough_94
          · have h_cy35 := cy35
            have by37 : IV 0 63 my26 := IV_nle_r cy35 hmy5 hmy26 (by decide) (by decide)
            refine lv_aload_n hx hb dX5_goThrough_64 rfl (lv_at hl 3 rfl) ?_
            refine lv_lload hx hb dX5_goThrough_65 (lv_at hl 1 rfl) ?_
            refine va_put (D := (dC, dI)) (ci := 4) (v := .long my10) (ty := .long) (C := RX5) (T := TX5) (N := 5) hx hb hts inX5_ tyX5 tyX5_ok nmX5 hown hK hP hD hS 0 rfl rfl 4 (by decide) (hts (.fieldLink RX5 28 "GateWheel$Worlds" "legalHere" "J") (List.mem_of_getElem? (i := 5) rfl)) (fun _ h9 => h9) rfl (by decide +kernel) rfl rfl (Nat.le_of_ble_eq_true rfl) dX5_goThrough_67 (fun Hy38 locs hP hD hS => ?_)
            have hP : va_P (dC, dI) vwCl [(h0, .inr (4, [.int my27, .long my28, .long my29, .ref h0_3, .long my10])), (h0_3, .inl (yh0_3, 60, .inr (.inl fy31))), (h1, .inr (0, [.int h1_0, .int h1_1, .ref h1_2, .ref h1_3, .ref h1_4, .ref h1_5, .ref h1_6, .ref h1_7, .ref h1_8, .ref h1_9, .ref h1_10, .ref h1_11, .ref h1_12])), (h1_4, .inl (yh1_4, 60, .inl fh1_4)), (h1_5, .inl (yh1_5, 60, .inl fh1_5)), (h1_7, .inl (yh1_7, 720, .inl fh1_7)), (h1_8, .inl (yh1_8, 60, .inl fh1_8)), (h1_9, .inl (yh1_9, 60, .inl fh1_9)), (h1_12, .inl (yh1_12, 60, .inl fh1_12)), (a2, .inl (ya2, 60, .inl fa2))] Hy38 := hP
            have hD : va_D A [(h0, .inr (4, [.int my27, .long my28, .long my29, .ref h0_3, .long my10])), (h0_3, .inl (yh0_3, 60, .inr (.inl fy31))), (h1, .inr (0, [.int h1_0, .int h1_1, .ref h1_2, .ref h1_3, .ref h1_4, .ref h1_5, .ref h1_6, .ref h1_7, .ref h1_8, .ref h1_9, .ref h1_10, .ref h1_11, .ref h1_12])), (h1_4, .inl (yh1_4, 60, .inl fh1_4)), (h1_5, .inl (yh1_5, 60, .inl fh1_5)), (h1_7, .inl (yh1_7, 720, .inl fh1_7)), (h1_8, .inl (yh1_8, 60, .inl fh1_8)), (h1_9, .inl (yh1_9, 60, .inl fh1_9)), (h1_12, .inl (yh1_12, 60, .inl fh1_12)), (a2, .inl (ya2, 60, .inl fa2))] := hD
            refine lv_aload_n hx hb dX5_goThrough_70 rfl (lv_at hl 3 rfl) ?_
            refine lv_aload_n hx hb dX5_goThrough_71 rfl (lv_at hl 4 rfl) ?_
            refine lv_aload_n hx hb dX5_goThrough_72 rfl (lv_at hl 5 rfl) ?_
            refine lv_iload hx hb dX5_goThrough_73 (lv_at hl 0 rfl) ?_
            have hPc := hP.sub (ws' := [(h0, .inr (4, [.int my27, .long my28, .long my29, .ref h0_3, .long my10])), (h0_3, .inl (yh0_3, 60, .inr (.inl fy31))), (h1, .inr (0, [.int h1_0, .int h1_1, .ref h1_2, .ref h1_3, .ref h1_4, .ref h1_5, .ref h1_6, .ref h1_7, .ref h1_8, .ref h1_9, .ref h1_10, .ref h1_11, .ref h1_12])), (h1_4, .inl (yh1_4, 60, .inl fh1_4)), (a2, .inl (ya2, 60, .inl fa2))]) [0, 1, 2, 3, 9] rfl
            have hDc := hD.sub (ws' := [(h0, .inr (4, [.int my27, .long my28, .long my29, .ref h0_3, .long my10])), (h0_3, .inl (yh0_3, 60, .inr (.inl fy31))), (h1, .inr (0, [.int h1_0, .int h1_1, .ref h1_2, .ref h1_3, .ref h1_4, .ref h1_5, .ref h1_6, .ref h1_7, .ref h1_8, .ref h1_9, .ref h1_10, .ref h1_11, .ref h1_12])), (h1_4, .inl (yh1_4, 60, .inl fh1_4)), (a2, .inl (ya2, 60, .inl fa2))]) [0, 1, 2, 3, 9] (by decide) rfl
            have hKc := hK.sub (tys' := [(yh0_3, .long), (yh1_4, .int), (ya2, .int)]) [0, 1, 7] rfl
            have hFc := va_free (wc := [(h0, .inr (4, [.int my27, .long my28, .long my29, .ref h0_3, .long my10])), (h0_3, .inl (yh0_3, 60, .inr (.inl fy31))), (h1, .inr (0, [.int h1_0, .int h1_1, .ref h1_2, .ref h1_3, .ref h1_4, .ref h1_5, .ref h1_6, .ref h1_7, .ref h1_8, .ref h1_9, .ref h1_10, .ref h1_11, .ref h1_12])), (h1_4, .inl (yh1_4, 60, .inl fh1_4)), (a2, .inl (ya2, 60, .inl fa2))]) hD hS hA [0, 1, 2, 3, 9] rfl
            refine va_callv (va_runV (As := [.ref h1, .ref a2, .int my26]) (rest := []) ⟨hx, hb, hml, hown, hts⟩ (s_X5_fillSources l dC dI h0 h0_3 h1 h1_4 a2 my27 my28 my29 my10 yh0_3 fy31 h1_0 h1_1 h1_2 h1_3 h1_5 h1_6 h1_7 h1_8 h1_9 h1_10 h1_11 h1_12 yh1_4 fh1_4 ya2 fa2 my26 tg Hy38.size hy_h1_0) (cwV 3 hts gX5_goThrough_X5_fillSources rfl rfl rfl (by decide +kernel) ⟨Nat.le_of_ble_eq_true rfl, Nat.le_of_ble_eq_true rfl⟩) ⟨fun a U g mk q => by obtain ⟨q0, q1, qP, qK, qD, qT⟩ := q; exact ⟨q0, q1, qP, va_K.moved (u := U) (U := U.calling g mk a) (Vm.Alike.refl U.vm) qK, qD, STG_moved (u := U) (U := U.calling g mk a) (Vm.Alike.refl U.vm) qT⟩, va_recv hKc hPc (ci := 4) (q0 := 0) rfl rfl, fun U hU hW => ⟨rfl, by rw [hU], by rw [hU]; exact hPc, va_K.moved hW.alike hKc, hDc.weaken (fun _ _ _ _ => trivial), by rw [hU]; exact STG_moved hW.alike (STG_narrow (STG_kept hST hS.2.1) hFc)⟩⟩ rfl rfl hl.1 rfl (lv_room (Nat.le_of_ble_eq_true rfl)) dX5_goThrough_75 ⟨Nat.le_of_ble_eq_true rfl, Nat.le_of_ble_eq_true rfl⟩) hS (fun q _ h => hFc q h) hFc (fun u t Hy39 locs ht hvm hw hB hz1 hk1 hS => ?_)
            obtain ⟨fy41, hP1, hK1, hD1⟩ := hB
            rw [ht] at hP1
            obtain ⟨hP, hD⟩ := va_join (wr := [(h1_5, .inl (yh1_5, 60, .inl fh1_5)), (h1_7, .inl (yh1_7, 720, .inl fh1_7)), (h1_8, .inl (yh1_8, 60, .inl fh1_8)), (h1_9, .inl (yh1_9, 60, .inl fh1_9)), (h1_12, .inl (yh1_12, 60, .inl fh1_12))]) (w1 := [(h0, .inr (4, [.int my27, .long my28, .long my29, .ref h0_3, .long my10])), (h0_3, .inl (yh0_3, 60, .inr (.inl fy41))), (h1, .inr (0, [.int h1_0, .int h1_1, .ref h1_2, .ref h1_3, .ref h1_4, .ref h1_5, .ref h1_6, .ref h1_7, .ref h1_8, .ref h1_9, .ref h1_10, .ref h1_11, .ref h1_12])), (h1_4, .inl (yh1_4, 60, .inl fh1_4)), (a2, .inl (ya2, 60, .inl fa2))]) hP hD [0, 1, 2, 3, 9] [4, 5, 6, 7, 8] rfl rfl (by decide) (by decide) hk1 hFc hP1 hD1
            have hP := hP.sub (ws' := [(h0, .inr (4, [.int my27, .long my28, .long my29, .ref h0_3, .long my10])), (h0_3, .inl (yh0_3, 60, .inr (.inl fy41))), (h1, .inr (0, [.int h1_0, .int h1_1, .ref h1_2, .ref h1_3, .ref h1_4, .ref h1_5, .ref h1_6, .ref h1_7, .ref h1_8, .ref h1_9, .ref h1_10, .ref h1_11, .ref h1_12])), (h1_4, .inl (yh1_4, 60, .inl fh1_4)), (h1_5, .inl (yh1_5, 60, .inl fh1_5)), (h1_7, .inl (yh1_7, 720, .inl fh1_7)), (h1_8, .inl (yh1_8, 60, .inl fh1_8)), (h1_9, .inl (yh1_9, 60, .inl fh1_9)), (h1_12, .inl (yh1_12, 60, .inl fh1_12)), (a2, .inl (ya2, 60, .inl fa2))]) [5, 6, 7, 8, 0, 1, 2, 3, 4, 9] rfl
            have hD := hD.sub (ws' := [(h0, .inr (4, [.int my27, .long my28, .long my29, .ref h0_3, .long my10])), (h0_3, .inl (yh0_3, 60, .inr (.inl fy41))), (h1, .inr (0, [.int h1_0, .int h1_1, .ref h1_2, .ref h1_3, .ref h1_4, .ref h1_5, .ref h1_6, .ref h1_7, .ref h1_8, .ref h1_9, .ref h1_10, .ref h1_11, .ref h1_12])), (h1_4, .inl (yh1_4, 60, .inl fh1_4)), (h1_5, .inl (yh1_5, 60, .inl fh1_5)), (h1_7, .inl (yh1_7, 720, .inl fh1_7)), (h1_8, .inl (yh1_8, 60, .inl fh1_8)), (h1_9, .inl (yh1_9, 60, .inl fh1_9)), (h1_12, .inl (yh1_12, 60, .inl fh1_12)), (a2, .inl (ya2, 60, .inl fa2))]) [5, 6, 7, 8, 0, 1, 2, 3, 4, 9] (by decide) rfl
            have hP : va_P (dC, dI) vwCl [(h0, .inr (4, [.int my27, .long my28, .long my29, .ref h0_3, .long my10])), (h0_3, .inl (yh0_3, 60, .inr (.inl fy41))), (h1, .inr (0, [.int h1_0, .int h1_1, .ref h1_2, .ref h1_3, .ref h1_4, .ref h1_5, .ref h1_6, .ref h1_7, .ref h1_8, .ref h1_9, .ref h1_10, .ref h1_11, .ref h1_12])), (h1_4, .inl (yh1_4, 60, .inl fh1_4)), (h1_5, .inl (yh1_5, 60, .inl fh1_5)), (h1_7, .inl (yh1_7, 720, .inl fh1_7)), (h1_8, .inl (yh1_8, 60, .inl fh1_8)), (h1_9, .inl (yh1_9, 60, .inl fh1_9)), (h1_12, .inl (yh1_12, 60, .inl fh1_12)), (a2, .inl (ya2, 60, .inl fa2))] Hy39 := hP
            have hD : va_D A [(h0, .inr (4, [.int my27, .long my28, .long my29, .ref h0_3, .long my10])), (h0_3, .inl (yh0_3, 60, .inr (.inl fy41))), (h1, .inr (0, [.int h1_0, .int h1_1, .ref h1_2, .ref h1_3, .ref h1_4, .ref h1_5, .ref h1_6, .ref h1_7, .ref h1_8, .ref h1_9, .ref h1_10, .ref h1_11, .ref h1_12])), (h1_4, .inl (yh1_4, 60, .inl fh1_4)), (h1_5, .inl (yh1_5, 60, .inl fh1_5)), (h1_7, .inl (yh1_7, 720, .inl fh1_7)), (h1_8, .inl (yh1_8, 60, .inl fh1_8)), (h1_9, .inl (yh1_9, 60, .inl fh1_9)), (h1_12, .inl (yh1_12, 60, .inl fh1_12)), (a2, .inl (ya2, 60, .inl fa2))] := hD
            refine lv_aload_n hx hb dX5_goThrough_78 rfl (lv_at hl 3 rfl) ?_
            refine lv_aload_n hx hb dX5_goThrough_79 rfl (lv_at hl 4 rfl) ?_
            have hPc := hP.sub (ws' := [(h0, .inr (4, [.int my27, .long my28, .long my29, .ref h0_3, .long my10])), (h0_3, .inl (yh0_3, 60, .inr (.inl fy41))), (h1, .inr (0, [.int h1_0, .int h1_1, .ref h1_2, .ref h1_3, .ref h1_4, .ref h1_5, .ref h1_6, .ref h1_7, .ref h1_8, .ref h1_9, .ref h1_10, .ref h1_11, .ref h1_12])), (h1_4, .inl (yh1_4, 60, .inl fh1_4)), (h1_5, .inl (yh1_5, 60, .inl fh1_5)), (h1_7, .inl (yh1_7, 720, .inl fh1_7)), (h1_8, .inl (yh1_8, 60, .inl fh1_8)), (h1_9, .inl (yh1_9, 60, .inl fh1_9)), (h1_12, .inl (yh1_12, 60, .inl fh1_12))]) [0, 1, 2, 3, 4, 5, 6, 7, 8] rfl
            have hDc := hD.sub (ws' := [(h0, .inr (4, [.int my27, .long my28, .long my29, .ref h0_3, .long my10])), (h0_3, .inl (yh0_3, 60, .inr (.inl fy41))), (h1, .inr (0, [.int h1_0, .int h1_1, .ref h1_2, .ref h1_3, .ref h1_4, .ref h1_5, .ref h1_6, .ref h1_7, .ref h1_8, .ref h1_9, .ref h1_10, .ref h1_11, .ref h1_12])), (h1_4, .inl (yh1_4, 60, .inl fh1_4)), (h1_5, .inl (yh1_5, 60, .inl fh1_5)), (h1_7, .inl (yh1_7, 720, .inl fh1_7)), (h1_8, .inl (yh1_8, 60, .inl fh1_8)), (h1_9, .inl (yh1_9, 60, .inl fh1_9)), (h1_12, .inl (yh1_12, 60, .inl fh1_12))]) [0, 1, 2, 3, 4, 5, 6, 7, 8] (by decide) rfl
            have hKc := hK.sub (tys' := [(yh0_3, .long), (yh1_4, .int), (yh1_5, .int), (yh1_7, .int), (yh1_8, .int), (yh1_9, .int), (yh1_12, .int)]) [0, 1, 2, 3, 4, 5, 6] rfl
            have hFc := va_free (wc := [(h0, .inr (4, [.int my27, .long my28, .long my29, .ref h0_3, .long my10])), (h0_3, .inl (yh0_3, 60, .inr (.inl fy41))), (h1, .inr (0, [.int h1_0, .int h1_1, .ref h1_2, .ref h1_3, .ref h1_4, .ref h1_5, .ref h1_6, .ref h1_7, .ref h1_8, .ref h1_9, .ref h1_10, .ref h1_11, .ref h1_12])), (h1_4, .inl (yh1_4, 60, .inl fh1_4)), (h1_5, .inl (yh1_5, 60, .inl fh1_5)), (h1_7, .inl (yh1_7, 720, .inl fh1_7)), (h1_8, .inl (yh1_8, 60, .inl fh1_8)), (h1_9, .inl (yh1_9, 60, .inl fh1_9)), (h1_12, .inl (yh1_12, 60, .inl fh1_12))]) hD hS hA [0, 1, 2, 3, 4, 5, 6, 7, 8] rfl
            refine va_callv (va_runV (As := [.ref h1]) (rest := []) ⟨hx, hb, hml, hown, hts⟩ (s_X5_followOthers l dC dI h0 h0_3 h1 h1_4 h1_5 h1_7 h1_8 h1_9 h1_12 my27 my28 my29 my10 yh0_3 fy41 h1_0 h1_1 h1_2 h1_3 h1_6 h1_10 h1_11 yh1_4 fh1_4 yh1_5 fh1_5 yh1_7 fh1_7 yh1_8 fh1_8 yh1_9 fh1_9 yh1_12 fh1_12 Hy39.size hy_h1_0 hy_fh1_7 hy_fh1_8 hy_fh1_12) (cwV 1 hts gX5_goThrough_X5_followOthers rfl rfl rfl (by decide +kernel) ⟨Nat.le_of_ble_eq_true rfl, Nat.le_of_ble_eq_true rfl⟩) ⟨fun a U g mk q => by obtain ⟨q0, q1, qP, qK, qD⟩ := q; exact ⟨q0, q1, qP, va_K.moved (u := U) (U := U.calling g mk a) (Vm.Alike.refl U.vm) qK, qD⟩, va_recv hKc hPc (ci := 4) (q0 := 0) rfl rfl, fun U hU hW => ⟨rfl, by rw [hU], by rw [hU]; exact hPc, va_K.moved hW.alike hKc, hDc.weaken (fun _ _ _ _ => trivial)⟩⟩ rfl rfl hl.1 rfl (lv_room (Nat.le_of_ble_eq_true rfl)) dX5_goThrough_80 ⟨Nat.le_of_ble_eq_true rfl, Nat.le_of_ble_eq_true rfl⟩) hS (fun q _ h => hFc q h) hFc (fun u t Hy42 locs ht hvm hw hB hz1 hk1 hS => ?_)
            obtain ⟨my44, fy45, hP1, hK1, hD1⟩ := hB
            rw [ht] at hP1
            obtain ⟨hP, hD⟩ := va_join (wr := [(a2, .inl (ya2, 60, .inl fa2))]) (w1 := [(h0, .inr (4, [.int my27, .long my28, .long my29, .ref h0_3, .long my44])), (h0_3, .inl (yh0_3, 60, .inr (.inl fy45))), (h1, .inr (0, [.int h1_0, .int h1_1, .ref h1_2, .ref h1_3, .ref h1_4, .ref h1_5, .ref h1_6, .ref h1_7, .ref h1_8, .ref h1_9, .ref h1_10, .ref h1_11, .ref h1_12])), (h1_4, .inl (yh1_4, 60, .inl fh1_4)), (h1_5, .inl (yh1_5, 60, .inl fh1_5)), (h1_7, .inl (yh1_7, 720, .inl fh1_7)), (h1_8, .inl (yh1_8, 60, .inl fh1_8)), (h1_9, .inl (yh1_9, 60, .inl fh1_9)), (h1_12, .inl (yh1_12, 60, .inl fh1_12))]) hP hD [0, 1, 2, 3, 4, 5, 6, 7, 8] [9] rfl rfl (by decide) (by decide) hk1 hFc hP1 hD1
            have hP := hP.sub (ws' := [(h0, .inr (4, [.int my27, .long my28, .long my29, .ref h0_3, .long my44])), (h0_3, .inl (yh0_3, 60, .inr (.inl fy45))), (h1, .inr (0, [.int h1_0, .int h1_1, .ref h1_2, .ref h1_3, .ref h1_4, .ref h1_5, .ref h1_6, .ref h1_7, .ref h1_8, .ref h1_9, .ref h1_10, .ref h1_11, .ref h1_12])), (h1_4, .inl (yh1_4, 60, .inl fh1_4)), (h1_5, .inl (yh1_5, 60, .inl fh1_5)), (h1_7, .inl (yh1_7, 720, .inl fh1_7)), (h1_8, .inl (yh1_8, 60, .inl fh1_8)), (h1_9, .inl (yh1_9, 60, .inl fh1_9)), (h1_12, .inl (yh1_12, 60, .inl fh1_12)), (a2, .inl (ya2, 60, .inl fa2))]) [1, 2, 3, 4, 5, 6, 7, 8, 9, 0] rfl
            have hD := hD.sub (ws' := [(h0, .inr (4, [.int my27, .long my28, .long my29, .ref h0_3, .long my44])), (h0_3, .inl (yh0_3, 60, .inr (.inl fy45))), (h1, .inr (0, [.int h1_0, .int h1_1, .ref h1_2, .ref h1_3, .ref h1_4, .ref h1_5, .ref h1_6, .ref h1_7, .ref h1_8, .ref h1_9, .ref h1_10, .ref h1_11, .ref h1_12])), (h1_4, .inl (yh1_4, 60, .inl fh1_4)), (h1_5, .inl (yh1_5, 60, .inl fh1_5)), (h1_7, .inl (yh1_7, 720, .inl fh1_7)), (h1_8, .inl (yh1_8, 60, .inl fh1_8)), (h1_9, .inl (yh1_9, 60, .inl fh1_9)), (h1_12, .inl (yh1_12, 60, .inl fh1_12)), (a2, .inl (ya2, 60, .inl fa2))]) [1, 2, 3, 4, 5, 6, 7, 8, 9, 0] (by decide) rfl
            have hP : va_P (dC, dI) vwCl [(h0, .inr (4, [.int my27, .long my28, .long my29, .ref h0_3, .long my44])), (h0_3, .inl (yh0_3, 60, .inr (.inl fy45))), (h1, .inr (0, [.int h1_0, .int h1_1, .ref h1_2, .ref h1_3, .ref h1_4, .ref h1_5, .ref h1_6, .ref h1_7, .ref h1_8, .ref h1_9, .ref h1_10, .ref h1_11, .ref h1_12])), (h1_4, .inl (yh1_4, 60, .inl fh1_4)), (h1_5, .inl (yh1_5, 60, .inl fh1_5)), (h1_7, .inl (yh1_7, 720, .inl fh1_7)), (h1_8, .inl (yh1_8, 60, .inl fh1_8)), (h1_9, .inl (yh1_9, 60, .inl fh1_9)), (h1_12, .inl (yh1_12, 60, .inl fh1_12)), (a2, .inl (ya2, 60, .inl fa2))] Hy42 := hP
            have hD : va_D A [(h0, .inr (4, [.int my27, .long my28, .long my29, .ref h0_3, .long my44])), (h0_3, .inl (yh0_3, 60, .inr (.inl fy45))), (h1, .inr (0, [.int h1_0, .int h1_1, .ref h1_2, .ref h1_3, .ref h1_4, .ref h1_5, .ref h1_6, .ref h1_7, .ref h1_8, .ref h1_9, .ref h1_10, .ref h1_11, .ref h1_12])), (h1_4, .inl (yh1_4, 60, .inl fh1_4)), (h1_5, .inl (yh1_5, 60, .inl fh1_5)), (h1_7, .inl (yh1_7, 720, .inl fh1_7)), (h1_8, .inl (yh1_8, 60, .inl fh1_8)), (h1_9, .inl (yh1_9, 60, .inl fh1_9)), (h1_12, .inl (yh1_12, 60, .inl fh1_12)), (a2, .inl (ya2, 60, .inl fa2))] := hD
            refine lv_aload_n hx hb dX5_goThrough_83 rfl (lv_at hl 3 rfl) ?_
            refine lv_aload_n hx hb dX5_goThrough_84 rfl (lv_at hl 4 rfl) ?_
            have hPc := hP.sub (ws' := [(h0, .inr (4, [.int my27, .long my28, .long my29, .ref h0_3, .long my44])), (h0_3, .inl (yh0_3, 60, .inr (.inl fy45))), (h1, .inr (0, [.int h1_0, .int h1_1, .ref h1_2, .ref h1_3, .ref h1_4, .ref h1_5, .ref h1_6, .ref h1_7, .ref h1_8, .ref h1_9, .ref h1_10, .ref h1_11, .ref h1_12]))]) [0, 1, 2] rfl
            have hDc := hD.sub (ws' := [(h0, .inr (4, [.int my27, .long my28, .long my29, .ref h0_3, .long my44])), (h0_3, .inl (yh0_3, 60, .inr (.inl fy45))), (h1, .inr (0, [.int h1_0, .int h1_1, .ref h1_2, .ref h1_3, .ref h1_4, .ref h1_5, .ref h1_6, .ref h1_7, .ref h1_8, .ref h1_9, .ref h1_10, .ref h1_11, .ref h1_12]))]) [0, 1, 2] (by decide) rfl
            have hKc := hK.sub (tys' := [(yh0_3, .long)]) [0] rfl
            have hFc := va_free (wc := [(h0, .inr (4, [.int my27, .long my28, .long my29, .ref h0_3, .long my44])), (h0_3, .inl (yh0_3, 60, .inr (.inl fy45))), (h1, .inr (0, [.int h1_0, .int h1_1, .ref h1_2, .ref h1_3, .ref h1_4, .ref h1_5, .ref h1_6, .ref h1_7, .ref h1_8, .ref h1_9, .ref h1_10, .ref h1_11, .ref h1_12]))]) hD hS hA [0, 1, 2] rfl
            refine va_callv (va_runV (As := [.ref h1]) (rest := []) ⟨hx, hb, hml, hown, hts⟩ (s_X5_collect l dC dI h0 h0_3 h1 my27 my28 my29 my44 yh0_3 fy45 h1_0 h1_1 h1_2 h1_3 h1_4 h1_5 h1_6 h1_7 h1_8 h1_9 h1_10 h1_11 h1_12 Hy42.size hy_h1_0) (cwV 1 hts gX5_goThrough_X5_collect rfl rfl rfl (by decide +kernel) ⟨Nat.le_of_ble_eq_true rfl, Nat.le_of_ble_eq_true rfl⟩) ⟨fun a U g mk q => by obtain ⟨q0, q1, qP, qK, qD⟩ := q; exact ⟨q0, q1, qP, va_K.moved (u := U) (U := U.calling g mk a) (Vm.Alike.refl U.vm) qK, qD⟩, va_recv hKc hPc (ci := 4) (q0 := 0) rfl rfl, fun U hU hW => ⟨rfl, by rw [hU], by rw [hU]; exact hPc, va_K.moved hW.alike hKc, hDc.weaken (fun _ _ _ _ => trivial)⟩⟩ rfl rfl hl.1 rfl (lv_room (Nat.le_of_ble_eq_true rfl)) dX5_goThrough_85 ⟨Nat.le_of_ble_eq_true rfl, Nat.le_of_ble_eq_true rfl⟩) hS (fun q _ h => hFc q h) hFc (fun u t Hy46 locs ht hvm hw hB hz1 hk1 hS => ?_)
            obtain ⟨my48, my49, my50, hP1, hK1, hD1⟩ := hB
            rw [ht] at hP1
            obtain ⟨hP, hD⟩ := va_join (wr := [(h1_4, .inl (yh1_4, 60, .inl fh1_4)), (h1_5, .inl (yh1_5, 60, .inl fh1_5)), (h1_7, .inl (yh1_7, 720, .inl fh1_7)), (h1_8, .inl (yh1_8, 60, .inl fh1_8)), (h1_9, .inl (yh1_9, 60, .inl fh1_9)), (h1_12, .inl (yh1_12, 60, .inl fh1_12)), (a2, .inl (ya2, 60, .inl fa2))]) (w1 := [(h0, .inr (4, [.int my48, .long my49, .long my50, .ref h0_3, .long my44])), (h0_3, .inl (yh0_3, 60, .inr (.inl fy45))), (h1, .inr (0, [.int h1_0, .int h1_1, .ref h1_2, .ref h1_3, .ref h1_4, .ref h1_5, .ref h1_6, .ref h1_7, .ref h1_8, .ref h1_9, .ref h1_10, .ref h1_11, .ref h1_12]))]) hP hD [0, 1, 2] [3, 4, 5, 6, 7, 8, 9] rfl rfl (by decide) (by decide) hk1 hFc hP1 hD1
            have hP := hP.sub (ws' := [(h0, .inr (4, [.int my48, .long my49, .long my50, .ref h0_3, .long my44])), (h0_3, .inl (yh0_3, 60, .inr (.inl fy45))), (h1, .inr (0, [.int h1_0, .int h1_1, .ref h1_2, .ref h1_3, .ref h1_4, .ref h1_5, .ref h1_6, .ref h1_7, .ref h1_8, .ref h1_9, .ref h1_10, .ref h1_11, .ref h1_12])), (h1_4, .inl (yh1_4, 60, .inl fh1_4)), (h1_5, .inl (yh1_5, 60, .inl fh1_5)), (h1_7, .inl (yh1_7, 720, .inl fh1_7)), (h1_8, .inl (yh1_8, 60, .inl fh1_8)), (h1_9, .inl (yh1_9, 60, .inl fh1_9)), (h1_12, .inl (yh1_12, 60, .inl fh1_12)), (a2, .inl (ya2, 60, .inl fa2))]) [7, 8, 9, 0, 1, 2, 3, 4, 5, 6] rfl
            have hD := hD.sub (ws' := [(h0, .inr (4, [.int my48, .long my49, .long my50, .ref h0_3, .long my44])), (h0_3, .inl (yh0_3, 60, .inr (.inl fy45))), (h1, .inr (0, [.int h1_0, .int h1_1, .ref h1_2, .ref h1_3, .ref h1_4, .ref h1_5, .ref h1_6, .ref h1_7, .ref h1_8, .ref h1_9, .ref h1_10, .ref h1_11, .ref h1_12])), (h1_4, .inl (yh1_4, 60, .inl fh1_4)), (h1_5, .inl (yh1_5, 60, .inl fh1_5)), (h1_7, .inl (yh1_7, 720, .inl fh1_7)), (h1_8, .inl (yh1_8, 60, .inl fh1_8)), (h1_9, .inl (yh1_9, 60, .inl fh1_9)), (h1_12, .inl (yh1_12, 60, .inl fh1_12)), (a2, .inl (ya2, 60, .inl fa2))]) [7, 8, 9, 0, 1, 2, 3, 4, 5, 6] (by decide) rfl
            have hP : va_P (dC, dI) vwCl [(h0, .inr (4, [.int my48, .long my49, .long my50, .ref h0_3, .long my44])), (h0_3, .inl (yh0_3, 60, .inr (.inl fy45))), (h1, .inr (0, [.int h1_0, .int h1_1, .ref h1_2, .ref h1_3, .ref h1_4, .ref h1_5, .ref h1_6, .ref h1_7, .ref h1_8, .ref h1_9, .ref h1_10, .ref h1_11, .ref h1_12])), (h1_4, .inl (yh1_4, 60, .inl fh1_4)), (h1_5, .inl (yh1_5, 60, .inl fh1_5)), (h1_7, .inl (yh1_7, 720, .inl fh1_7)), (h1_8, .inl (yh1_8, 60, .inl fh1_8)), (h1_9, .inl (yh1_9, 60, .inl fh1_9)), (h1_12, .inl (yh1_12, 60, .inl fh1_12)), (a2, .inl (ya2, 60, .inl fa2))] Hy46 := hP
            have hD : va_D A [(h0, .inr (4, [.int my48, .long my49, .long my50, .ref h0_3, .long my44])), (h0_3, .inl (yh0_3, 60, .inr (.inl fy45))), (h1, .inr (0, [.int h1_0, .int h1_1, .ref h1_2, .ref h1_3, .ref h1_4, .ref h1_5, .ref h1_6, .ref h1_7, .ref h1_8, .ref h1_9, .ref h1_10, .ref h1_11, .ref h1_12])), (h1_4, .inl (yh1_4, 60, .inl fh1_4)), (h1_5, .inl (yh1_5, 60, .inl fh1_5)), (h1_7, .inl (yh1_7, 720, .inl fh1_7)), (h1_8, .inl (yh1_8, 60, .inl fh1_8)), (h1_9, .inl (yh1_9, 60, .inl fh1_9)), (h1_12, .inl (yh1_12, 60, .inl fh1_12)), (a2, .inl (ya2, 60, .inl fa2))] := hD
            obtain ⟨zy51, ezy51⟩ : ∃ y : Int32, y = my26 + Int32.ofInt 1 := ⟨_, rfl⟩
            have by52 : IV 1 64 zy51 := IV_add (c := 1) (d := 1) ezy51 by37 (IV_mk (by decide) (by decide)) (by decide) (by decide) (by decide) (by decide)
            refine lv_iinc (v := zy51) (lv' := [(7, .int zy51), (5, .long my10), (4, .int my5), (0, .ref h0), (1, .ref h1), (2, .ref a2), (3, .int p3)]) hx hb dX5_goThrough_88 hl (k := 0) rfl ezy51.symm (by decide) rfl (fun ls hl => ?_)
            refine lv_goto (tgt := 57) hx hb dX5_goThrough_91 (by decide) ?_
            exact (eGy33 _ _ _ _ _).mp (ihGWy32 zy51 my48 my49 my50 my44 fy45 _ _ _ (IV_u1 hmGWy32 (IV_step (c := 1) ezy51 by37 (by decide) (by decide) (by decide)) (by decide)) (IV_wk by52 (by decide) (by decide)) hP hD hS (lv_sub hl [0, 1, 2, 3, 4, 5, 6] rfl))
      exact lpy34 65 0 0 0 0 h0_4 fh0_3 _ _ _ (IV_ui (IV_mk (a := 0) (b := 0) (by decide) (by decide)) (by decide)) (IV_mk (by decide) (by decide)) hP hD hS (lv_sub hl [0, 1, 2, 3, 4, 5, 6] rfl)
    refine (eGy12 _ _ _ _ _).mpr ?_
    refine lv_icmp_lt (tgt := 45) hx hb dX5_goThrough_36 (by decide) (fun cy9 => ?_) (fun cy9 => ?_)
    · have h_cy9 := cy9
      have by53 : IV 0 5 p3 := IV_lt_l cy9 hy_p3 (IV_mk (a := 6) (b := 6) (by decide) (by decide)) (by decide) (by decide)
      refine lv_lconst (v := 1) hx hb dX5_goThrough_45 (by decide) ?_
      refine lv_iconst (v := 1) hx hb dX5_goThrough_46 (by decide) ?_
      refine lv_iload_n hx hb dX5_goThrough_47 rfl (lv_at hl 4 rfl) ?_
      refine lv_ishl hx hb dX5_goThrough_48 ?_
      refine lv_topi (fun zy54 ezy54 => ?_)
      have by55 : IV 1 32 zy54 := IV_shl ezy54 by53 (by decide) (by decide) (by decide) (by decide)
      refine lv_lshl hx hb dX5_goThrough_49 rfl ?_
      refine lv_topl (fun zy56 ezy56 => ?_)
      refine lv_lconst (v := 1) hx hb dX5_goThrough_50 (by decide) ?_
      refine lv_lsub hx hb dX5_goThrough_51 ?_
      refine lv_topl (fun zy57 ezy57 => ?_)
      exact (eGy12 _ _ _ _ _).mp (jny13 zy57 _ _ _ hP hD hS (lv_sub hl [0, 1, 2, 3, 4] rfl))
    · have h_cy9 := cy9
      have by58 : IV 6 12 p3 := IV_nlt_l cy9 hy_p3 (IV_mk (a := 6) (b := 6) (by decide) (by decide)) (by decide) (by decide)
      refine lv_ldc2 hx hb hown (hts (.constantLong RX5 26 (-1)) (List.mem_of_getElem? (i := 4) rfl)) dX5_goThrough_39 ?_
      refine lv_goto (tgt := 52) hx hb dX5_goThrough_42 (by decide) ?_
      exact (eGy12 _ _ _ _ _).mp (jny13 (-1) _ _ _ hP hD hS (lv_sub hl [0, 1, 2, 3, 4] rfl))
  refine (eGy7 _ _ _ _ _).mpr ?_
  refine lv_icmp_le (tgt := 30) hx hb dX5_goThrough_18 (by decide) (fun cy4 => ?_) (fun cy4 => ?_)
  · have h_cy4 := cy4
    have by59 : IV 0 6 p3 := IV_le_l cy4 hy_p3 (IV_mk (a := 6) (b := 6) (by decide) (by decide)) (by decide) (by decide)
    refine lv_iconst (v := 1) hx hb dX5_goThrough_30 (by decide) ?_
    exact (eGy7 _ _ _ _ _).mp (jny8 1 _ _ _ (IV_mk (by decide) (by decide)) hP hD hS (lv_sub hl [0, 1, 2, 3] rfl))
  · have h_cy4 := cy4
    have by60 : IV 7 12 p3 := IV_nle_l cy4 hy_p3 (IV_mk (a := 6) (b := 6) (by decide) (by decide)) (by decide) (by decide)
    refine lv_iconst (v := 1) hx hb dX5_goThrough_21 (by decide) ?_
    refine lv_iload_n hx hb dX5_goThrough_22 rfl (lv_at hl 3 rfl) ?_
    refine lv_bipush (v := 6) hx hb dX5_goThrough_23 (by decide) ?_
    refine lv_isub hx hb dX5_goThrough_25 ?_
    refine lv_topi (fun zy61 ezy61 => ?_)
    have by62 : IV 1 6 zy61 := IV_sub ezy61 by60 (IV_mk (a := 6) (b := 6) (by decide) (by decide)) (by decide) (by decide) (by decide) (by decide)
    refine lv_ishl hx hb dX5_goThrough_26 ?_
    refine lv_topi (fun zy63 ezy63 => ?_)
    have by64 : IV 2 64 zy63 := IV_shl ezy63 by62 (by decide) (by decide) (by decide) (by decide)
    refine lv_goto (tgt := 31) hx hb dX5_goThrough_27 (by decide) ?_
    exact (eGy7 _ _ _ _ _).mp (jny8 zy63 _ _ _ (IV_wk by64 (by decide) (by decide)) hP hD hS (lv_sub hl [0, 1, 2, 3] rfl))
